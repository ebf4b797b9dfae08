theorem dX10_faultOf_0 : decode cX10_faultOf 0 = .ok (.aload_n 1, 1) := by decide +kernel
theorem dX10_faultOf_1 : decode cX10_faultOf 1 = .ok (.iconst 0, 1) := by decide +kernel
theorem dX10_faultOf_2 : decode cX10_faultOf 2 = .ok (.putfield 22, 3) := by decide +kernel
theorem dX10_faultOf_5 : decode cX10_faultOf 5 = .ok (.aload_n 0, 1) := by decide +kernel
theorem dX10_faultOf_6 : decode cX10_faultOf 6 = .ok (.getfield 18, 3) := by decide +kernel
theorem dX10_faultOf_9 : decode cX10_faultOf 9 = .ok (.invokevirtual 28, 3) := by decide +kernel
theorem dX10_faultOf_12 : decode cX10_faultOf 12 = .ok (.aload_n 0, 1) := by decide +kernel
theorem dX10_faultOf_13 : decode cX10_faultOf 13 = .ok (.aload_n 1, 1) := by decide +kernel
theorem dX10_faultOf_14 : decode cX10_faultOf 14 = .ok (.invokevirtual 31, 3) := by decide +kernel
theorem dX10_faultOf_17 : decode cX10_faultOf 17 = .ok (.istore_n 2, 1) := by decide +kernel
theorem dX10_faultOf_18 : decode cX10_faultOf 18 = .ok (.iconst 0, 1) := by decide +kernel
theorem dX10_faultOf_19 : decode cX10_faultOf 19 = .ok (.istore_n 3, 1) := by decide +kernel
theorem dX10_faultOf_20 : decode cX10_faultOf 20 = .ok (.iload_n 3, 1) := by decide +kernel
theorem dX10_faultOf_21 : decode cX10_faultOf 21 = .ok (.sipush 160, 3) := by decide +kernel
theorem dX10_faultOf_24 : decode cX10_faultOf 24 = .ok (.if_icmp .ge 28, 3) := by decide +kernel
theorem dX10_faultOf_27 : decode cX10_faultOf 27 = .ok (.iload_n 2, 1) := by decide +kernel
theorem dX10_faultOf_28 : decode cX10_faultOf 28 = .ok (.ifCond .eq 24, 3) := by decide +kernel
theorem dX10_faultOf_31 : decode cX10_faultOf 31 = .ok (.aload_n 1, 1) := by decide +kernel
theorem dX10_faultOf_32 : decode cX10_faultOf 32 = .ok (.bipush 59, 2) := by decide +kernel
theorem dX10_faultOf_34 : decode cX10_faultOf 34 = .ok (.invokevirtual 35, 3) := by decide +kernel
theorem dX10_faultOf_37 : decode cX10_faultOf 37 = .ok (.ifCond .eq 15, 3) := by decide +kernel
theorem dX10_faultOf_40 : decode cX10_faultOf 40 = .ok (.aload_n 0, 1) := by decide +kernel
theorem dX10_faultOf_41 : decode cX10_faultOf 41 = .ok (.aload_n 1, 1) := by decide +kernel
theorem dX10_faultOf_42 : decode cX10_faultOf 42 = .ok (.invokevirtual 31, 3) := by decide +kernel
theorem dX10_faultOf_45 : decode cX10_faultOf 45 = .ok (.istore_n 2, 1) := by decide +kernel
theorem dX10_faultOf_46 : decode cX10_faultOf 46 = .ok (.iinc 3 1, 3) := by decide +kernel
theorem dX10_faultOf_49 : decode cX10_faultOf 49 = .ok (.goto (-29), 3) := by decide +kernel
theorem dX10_faultOf_52 : decode cX10_faultOf 52 = .ok (.iload_n 2, 1) := by decide +kernel
theorem dX10_faultOf_53 : decode cX10_faultOf 53 = .ok (.ifCond .eq 10, 3) := by decide +kernel
theorem dX10_faultOf_56 : decode cX10_faultOf 56 = .ok (.aload_n 1, 1) := by decide +kernel
theorem dX10_faultOf_57 : decode cX10_faultOf 57 = .ok (.invokevirtual 39, 3) := by decide +kernel
theorem dX10_faultOf_60 : decode cX10_faultOf 60 = .ok (.ifCond .eq 8, 3) := by decide +kernel
theorem dX10_faultOf_63 : decode cX10_faultOf 63 = .ok (.aload_n 1, 1) := by decide +kernel
theorem dX10_faultOf_64 : decode cX10_faultOf 64 = .ok (.getfield 22, 3) := by decide +kernel
theorem dX10_faultOf_67 : decode cX10_faultOf 67 = .ok (.ireturn, 1) := by decide +kernel
theorem dX10_faultOf_68 : decode cX10_faultOf 68 = .ok (.aload_n 0, 1) := by decide +kernel
theorem dX10_faultOf_69 : decode cX10_faultOf 69 = .ok (.getfield 18, 3) := by decide +kernel
theorem dX10_faultOf_72 : decode cX10_faultOf 72 = .ok (.invokevirtual 43, 3) := by decide +kernel
theorem dX10_faultOf_75 : decode cX10_faultOf 75 = .ok (.ifCond .eq 7, 3) := by decide +kernel
theorem dX10_faultOf_78 : decode cX10_faultOf 78 = .ok (.iconst (-1), 1) := by decide +kernel
theorem dX10_faultOf_79 : decode cX10_faultOf 79 = .ok (.goto 7, 3) := by decide +kernel
theorem dX10_faultOf_82 : decode cX10_faultOf 82 = .ok (.aload_n 1, 1) := by decide +kernel
theorem dX10_faultOf_83 : decode cX10_faultOf 83 = .ok (.getfield 47, 3) := by decide +kernel
theorem dX10_faultOf_86 : decode cX10_faultOf 86 = .ok (.ireturn, 1) := by decide +kernel
theorem dX10_itemOf_0 : decode cX10_itemOf 0 = .ok (.iconst 0, 1) := by decide +kernel
theorem dX10_itemOf_1 : decode cX10_itemOf 1 = .ok (.istore_n 2, 1) := by decide +kernel
theorem dX10_itemOf_2 : decode cX10_itemOf 2 = .ok (.iload_n 2, 1) := by decide +kernel
theorem dX10_itemOf_3 : decode cX10_itemOf 3 = .ok (.iconst 4, 1) := by decide +kernel
theorem dX10_itemOf_4 : decode cX10_itemOf 4 = .ok (.if_icmp .ge 22, 3) := by decide +kernel
theorem dX10_itemOf_7 : decode cX10_itemOf 7 = .ok (.getstatic 87, 3) := by decide +kernel
theorem dX10_itemOf_10 : decode cX10_itemOf 10 = .ok (.iload_n 1, 1) := by decide +kernel
theorem dX10_itemOf_11 : decode cX10_itemOf 11 = .ok (.iload_n 2, 1) := by decide +kernel
theorem dX10_itemOf_12 : decode cX10_itemOf 12 = .ok (.iadd, 1) := by decide +kernel
theorem dX10_itemOf_13 : decode cX10_itemOf 13 = .ok (.caload, 1) := by decide +kernel
theorem dX10_itemOf_14 : decode cX10_itemOf 14 = .ok (.iload_n 0, 1) := by decide +kernel
theorem dX10_itemOf_15 : decode cX10_itemOf 15 = .ok (.if_icmp .ne 5, 3) := by decide +kernel
theorem dX10_itemOf_18 : decode cX10_itemOf 18 = .ok (.iload_n 2, 1) := by decide +kernel
theorem dX10_itemOf_19 : decode cX10_itemOf 19 = .ok (.ireturn, 1) := by decide +kernel
theorem dX10_itemOf_20 : decode cX10_itemOf 20 = .ok (.iinc 2 1, 3) := by decide +kernel
theorem dX10_itemOf_23 : decode cX10_itemOf 23 = .ok (.goto (-21), 3) := by decide +kernel
theorem dX10_itemOf_26 : decode cX10_itemOf 26 = .ok (.iconst (-1), 1) := by decide +kernel
theorem dX10_itemOf_27 : decode cX10_itemOf 27 = .ok (.ireturn, 1) := by decide +kernel
theorem dX10_readClause_0 : decode cX10_readClause 0 = .ok (.aload_n 1, 1) := by decide +kernel
theorem dX10_readClause_1 : decode cX10_readClause 1 = .ok (.invokevirtual 39, 3) := by decide +kernel
theorem dX10_readClause_4 : decode cX10_readClause 4 = .ok (.istore_n 2, 1) := by decide +kernel
theorem dX10_readClause_5 : decode cX10_readClause 5 = .ok (.iload_n 2, 1) := by decide +kernel
theorem dX10_readClause_6 : decode cX10_readClause 6 = .ok (.bipush 108, 2) := by decide +kernel
theorem dX10_readClause_8 : decode cX10_readClause 8 = .ok (.if_icmp .ne 45, 3) := by decide +kernel
theorem dX10_readClause_11 : decode cX10_readClause 11 = .ok (.aload_n 0, 1) := by decide +kernel
theorem dX10_readClause_12 : decode cX10_readClause 12 = .ok (.getfield 18, 3) := by decide +kernel
theorem dX10_readClause_15 : decode cX10_readClause 15 = .ok (.getfield 50, 3) := by decide +kernel
theorem dX10_readClause_18 : decode cX10_readClause 18 = .ok (.bipush 8, 2) := by decide +kernel
theorem dX10_readClause_20 : decode cX10_readClause 20 = .ok (.if_icmp .ge 33, 3) := by decide +kernel
theorem dX10_readClause_23 : decode cX10_readClause 23 = .ok (.aload_n 1, 1) := by decide +kernel
theorem dX10_readClause_24 : decode cX10_readClause 24 = .ok (.dup, 1) := by decide +kernel
theorem dX10_readClause_25 : decode cX10_readClause 25 = .ok (.getfield 22, 3) := by decide +kernel
theorem dX10_readClause_28 : decode cX10_readClause 28 = .ok (.iconst 1, 1) := by decide +kernel
theorem dX10_readClause_29 : decode cX10_readClause 29 = .ok (.iadd, 1) := by decide +kernel
theorem dX10_readClause_30 : decode cX10_readClause 30 = .ok (.putfield 22, 3) := by decide +kernel
theorem dX10_readClause_33 : decode cX10_readClause 33 = .ok (.aload_n 0, 1) := by decide +kernel
theorem dX10_readClause_34 : decode cX10_readClause 34 = .ok (.aload_n 1, 1) := by decide +kernel
theorem dX10_readClause_35 : decode cX10_readClause 35 = .ok (.iconst 0, 1) := by decide +kernel
theorem dX10_readClause_36 : decode cX10_readClause 36 = .ok (.invokevirtual 53, 3) := by decide +kernel
theorem dX10_readClause_39 : decode cX10_readClause 39 = .ok (.istore_n 3, 1) := by decide +kernel
theorem dX10_readClause_40 : decode cX10_readClause 40 = .ok (.aload_n 0, 1) := by decide +kernel
theorem dX10_readClause_41 : decode cX10_readClause 41 = .ok (.getfield 18, 3) := by decide +kernel
theorem dX10_readClause_44 : decode cX10_readClause 44 = .ok (.aload_n 0, 1) := by decide +kernel
theorem dX10_readClause_45 : decode cX10_readClause 45 = .ok (.getfield 11, 3) := by decide +kernel
theorem dX10_readClause_48 : decode cX10_readClause 48 = .ok (.invokevirtual 57, 3) := by decide +kernel
theorem dX10_readClause_51 : decode cX10_readClause 51 = .ok (.iload_n 3, 1) := by decide +kernel
theorem dX10_readClause_52 : decode cX10_readClause 52 = .ok (.ireturn, 1) := by decide +kernel
theorem dX10_readClause_53 : decode cX10_readClause 53 = .ok (.iload_n 2, 1) := by decide +kernel
theorem dX10_readClause_54 : decode cX10_readClause 54 = .ok (.bipush 107, 2) := by decide +kernel
theorem dX10_readClause_56 : decode cX10_readClause 56 = .ok (.if_icmp .ne 45, 3) := by decide +kernel
theorem dX10_readClause_59 : decode cX10_readClause 59 = .ok (.aload_n 0, 1) := by decide +kernel
theorem dX10_readClause_60 : decode cX10_readClause 60 = .ok (.getfield 18, 3) := by decide +kernel
theorem dX10_readClause_63 : decode cX10_readClause 63 = .ok (.getfield 61, 3) := by decide +kernel
theorem dX10_readClause_66 : decode cX10_readClause 66 = .ok (.bipush 10, 2) := by decide +kernel
theorem dX10_readClause_68 : decode cX10_readClause 68 = .ok (.if_icmp .ge 33, 3) := by decide +kernel
theorem dX10_readClause_71 : decode cX10_readClause 71 = .ok (.aload_n 1, 1) := by decide +kernel
theorem dX10_readClause_72 : decode cX10_readClause 72 = .ok (.dup, 1) := by decide +kernel
theorem dX10_readClause_73 : decode cX10_readClause 73 = .ok (.getfield 22, 3) := by decide +kernel
theorem dX10_readClause_76 : decode cX10_readClause 76 = .ok (.iconst 1, 1) := by decide +kernel
theorem dX10_readClause_77 : decode cX10_readClause 77 = .ok (.iadd, 1) := by decide +kernel
theorem dX10_readClause_78 : decode cX10_readClause 78 = .ok (.putfield 22, 3) := by decide +kernel
theorem dX10_readClause_81 : decode cX10_readClause 81 = .ok (.aload_n 0, 1) := by decide +kernel
theorem dX10_readClause_82 : decode cX10_readClause 82 = .ok (.aload_n 1, 1) := by decide +kernel
theorem dX10_readClause_83 : decode cX10_readClause 83 = .ok (.iconst 4, 1) := by decide +kernel
theorem dX10_readClause_84 : decode cX10_readClause 84 = .ok (.invokevirtual 53, 3) := by decide +kernel
theorem dX10_readClause_87 : decode cX10_readClause 87 = .ok (.istore_n 3, 1) := by decide +kernel
theorem dX10_readClause_88 : decode cX10_readClause 88 = .ok (.aload_n 0, 1) := by decide +kernel
theorem dX10_readClause_89 : decode cX10_readClause 89 = .ok (.getfield 18, 3) := by decide +kernel
theorem dX10_readClause_92 : decode cX10_readClause 92 = .ok (.aload_n 0, 1) := by decide +kernel
theorem dX10_readClause_93 : decode cX10_readClause 93 = .ok (.getfield 11, 3) := by decide +kernel
theorem dX10_readClause_96 : decode cX10_readClause 96 = .ok (.invokevirtual 64, 3) := by decide +kernel
theorem dX10_readClause_99 : decode cX10_readClause 99 = .ok (.iload_n 3, 1) := by decide +kernel
theorem dX10_readClause_100 : decode cX10_readClause 100 = .ok (.ireturn, 1) := by decide +kernel
theorem dX10_readClause_101 : decode cX10_readClause 101 = .ok (.iconst 0, 1) := by decide +kernel
theorem dX10_readClause_102 : decode cX10_readClause 102 = .ok (.ireturn, 1) := by decide +kernel
theorem dX10_readItems_0 : decode cX10_readItems 0 = .ok (.iconst 0, 1) := by decide +kernel
theorem dX10_readItems_1 : decode cX10_readItems 1 = .ok (.istore_n 3, 1) := by decide +kernel
theorem dX10_readItems_2 : decode cX10_readItems 2 = .ok (.iload_n 3, 1) := by decide +kernel
theorem dX10_readItems_3 : decode cX10_readItems 3 = .ok (.iconst 4, 1) := by decide +kernel
theorem dX10_readItems_4 : decode cX10_readItems 4 = .ok (.if_icmp .ge 22, 3) := by decide +kernel
theorem dX10_readItems_7 : decode cX10_readItems 7 = .ok (.aload_n 0, 1) := by decide +kernel
theorem dX10_readItems_8 : decode cX10_readItems 8 = .ok (.getfield 11, 3) := by decide +kernel
theorem dX10_readItems_11 : decode cX10_readItems 11 = .ok (.iload_n 3, 1) := by decide +kernel
theorem dX10_readItems_12 : decode cX10_readItems 12 = .ok (.getstatic 67, 3) := by decide +kernel
theorem dX10_readItems_15 : decode cX10_readItems 15 = .ok (.iload_n 2, 1) := by decide +kernel
theorem dX10_readItems_16 : decode cX10_readItems 16 = .ok (.iload_n 3, 1) := by decide +kernel
theorem dX10_readItems_17 : decode cX10_readItems 17 = .ok (.iadd, 1) := by decide +kernel
theorem dX10_readItems_18 : decode cX10_readItems 18 = .ok (.iaload, 1) := by decide +kernel
theorem dX10_readItems_19 : decode cX10_readItems 19 = .ok (.iastore, 1) := by decide +kernel
theorem dX10_readItems_20 : decode cX10_readItems 20 = .ok (.iinc 3 1, 3) := by decide +kernel
theorem dX10_readItems_23 : decode cX10_readItems 23 = .ok (.goto (-21), 3) := by decide +kernel
theorem dX10_readItems_26 : decode cX10_readItems 26 = .ok (.iconst 0, 1) := by decide +kernel
theorem dX10_readItems_27 : decode cX10_readItems 27 = .ok (.istore_n 3, 1) := by decide +kernel
theorem dX10_readItems_28 : decode cX10_readItems 28 = .ok (.iconst 0, 1) := by decide +kernel
theorem dX10_readItems_29 : decode cX10_readItems 29 = .ok (.istore 4, 2) := by decide +kernel
theorem dX10_readItems_31 : decode cX10_readItems 31 = .ok (.iload 4, 2) := by decide +kernel
theorem dX10_readItems_33 : decode cX10_readItems 33 = .ok (.iconst 4, 1) := by decide +kernel
theorem dX10_readItems_34 : decode cX10_readItems 34 = .ok (.if_icmp .gt 93, 3) := by decide +kernel
theorem dX10_readItems_37 : decode cX10_readItems 37 = .ok (.aload_n 1, 1) := by decide +kernel
theorem dX10_readItems_38 : decode cX10_readItems 38 = .ok (.invokevirtual 39, 3) := by decide +kernel
theorem dX10_readItems_41 : decode cX10_readItems 41 = .ok (.iload_n 2, 1) := by decide +kernel
theorem dX10_readItems_42 : decode cX10_readItems 42 = .ok (.invokestatic 70, 3) := by decide +kernel
theorem dX10_readItems_45 : decode cX10_readItems 45 = .ok (.istore 5, 2) := by decide +kernel
theorem dX10_readItems_47 : decode cX10_readItems 47 = .ok (.iload 5, 2) := by decide +kernel
theorem dX10_readItems_49 : decode cX10_readItems 49 = .ok (.iconst (-1), 1) := by decide +kernel
theorem dX10_readItems_50 : decode cX10_readItems 50 = .ok (.if_icmp .ne 5, 3) := by decide +kernel
theorem dX10_readItems_53 : decode cX10_readItems 53 = .ok (.iconst 1, 1) := by decide +kernel
theorem dX10_readItems_54 : decode cX10_readItems 54 = .ok (.ireturn, 1) := by decide +kernel
theorem dX10_readItems_55 : decode cX10_readItems 55 = .ok (.iload_n 3, 1) := by decide +kernel
theorem dX10_readItems_56 : decode cX10_readItems 56 = .ok (.iload 5, 2) := by decide +kernel
theorem dX10_readItems_58 : decode cX10_readItems 58 = .ok (.ishr, 1) := by decide +kernel
theorem dX10_readItems_59 : decode cX10_readItems 59 = .ok (.iconst 1, 1) := by decide +kernel
theorem dX10_readItems_60 : decode cX10_readItems 60 = .ok (.iand, 1) := by decide +kernel
theorem dX10_readItems_61 : decode cX10_readItems 61 = .ok (.iconst 1, 1) := by decide +kernel
theorem dX10_readItems_62 : decode cX10_readItems 62 = .ok (.if_icmp .ne 5, 3) := by decide +kernel
theorem dX10_readItems_65 : decode cX10_readItems 65 = .ok (.iconst 0, 1) := by decide +kernel
theorem dX10_readItems_66 : decode cX10_readItems 66 = .ok (.ireturn, 1) := by decide +kernel
theorem dX10_readItems_67 : decode cX10_readItems 67 = .ok (.iload_n 3, 1) := by decide +kernel
theorem dX10_readItems_68 : decode cX10_readItems 68 = .ok (.iconst 1, 1) := by decide +kernel
theorem dX10_readItems_69 : decode cX10_readItems 69 = .ok (.iload 5, 2) := by decide +kernel
theorem dX10_readItems_71 : decode cX10_readItems 71 = .ok (.ishl, 1) := by decide +kernel
theorem dX10_readItems_72 : decode cX10_readItems 72 = .ok (.ior, 1) := by decide +kernel
theorem dX10_readItems_73 : decode cX10_readItems 73 = .ok (.istore_n 3, 1) := by decide +kernel
theorem dX10_readItems_74 : decode cX10_readItems 74 = .ok (.aload_n 1, 1) := by decide +kernel
theorem dX10_readItems_75 : decode cX10_readItems 75 = .ok (.dup, 1) := by decide +kernel
theorem dX10_readItems_76 : decode cX10_readItems 76 = .ok (.getfield 22, 3) := by decide +kernel
theorem dX10_readItems_79 : decode cX10_readItems 79 = .ok (.iconst 1, 1) := by decide +kernel
theorem dX10_readItems_80 : decode cX10_readItems 80 = .ok (.iadd, 1) := by decide +kernel
theorem dX10_readItems_81 : decode cX10_readItems 81 = .ok (.putfield 22, 3) := by decide +kernel
theorem dX10_readItems_84 : decode cX10_readItems 84 = .ok (.aload_n 1, 1) := by decide +kernel
theorem dX10_readItems_85 : decode cX10_readItems 85 = .ok (.iconst 3, 1) := by decide +kernel
theorem dX10_readItems_86 : decode cX10_readItems 86 = .ok (.getstatic 74, 3) := by decide +kernel
theorem dX10_readItems_89 : decode cX10_readItems 89 = .ok (.iload_n 2, 1) := by decide +kernel
theorem dX10_readItems_90 : decode cX10_readItems 90 = .ok (.iload 5, 2) := by decide +kernel
theorem dX10_readItems_92 : decode cX10_readItems 92 = .ok (.iadd, 1) := by decide +kernel
theorem dX10_readItems_93 : decode cX10_readItems 93 = .ok (.iaload, 1) := by decide +kernel
theorem dX10_readItems_94 : decode cX10_readItems 94 = .ok (.getstatic 77, 3) := by decide +kernel
theorem dX10_readItems_97 : decode cX10_readItems 97 = .ok (.iload_n 2, 1) := by decide +kernel
theorem dX10_readItems_98 : decode cX10_readItems 98 = .ok (.iload 5, 2) := by decide +kernel
theorem dX10_readItems_100 : decode cX10_readItems 100 = .ok (.iadd, 1) := by decide +kernel
theorem dX10_readItems_101 : decode cX10_readItems 101 = .ok (.iaload, 1) := by decide +kernel
theorem dX10_readItems_102 : decode cX10_readItems 102 = .ok (.invokevirtual 80, 3) := by decide +kernel
theorem dX10_readItems_105 : decode cX10_readItems 105 = .ok (.ifCond .ne 5, 3) := by decide +kernel
theorem dX10_readItems_108 : decode cX10_readItems 108 = .ok (.iconst 0, 1) := by decide +kernel
theorem dX10_readItems_109 : decode cX10_readItems 109 = .ok (.ireturn, 1) := by decide +kernel
theorem dX10_readItems_110 : decode cX10_readItems 110 = .ok (.aload_n 0, 1) := by decide +kernel
theorem dX10_readItems_111 : decode cX10_readItems 111 = .ok (.getfield 11, 3) := by decide +kernel
theorem dX10_readItems_114 : decode cX10_readItems 114 = .ok (.iload 5, 2) := by decide +kernel
theorem dX10_readItems_116 : decode cX10_readItems 116 = .ok (.aload_n 1, 1) := by decide +kernel
theorem dX10_readItems_117 : decode cX10_readItems 117 = .ok (.getfield 84, 3) := by decide +kernel
theorem dX10_readItems_120 : decode cX10_readItems 120 = .ok (.iastore, 1) := by decide +kernel
theorem dX10_readItems_121 : decode cX10_readItems 121 = .ok (.iinc 4 1, 3) := by decide +kernel
theorem dX10_readItems_124 : decode cX10_readItems 124 = .ok (.goto (-93), 3) := by decide +kernel
theorem dX10_readItems_127 : decode cX10_readItems 127 = .ok (.iconst 1, 1) := by decide +kernel
theorem dX10_readItems_128 : decode cX10_readItems 128 = .ok (.ireturn, 1) := by decide +kernel
theorem dX9_addFamily_0 : decode cX9_addFamily 0 = .ok (.aload_n 0, 1) := by decide +kernel
theorem dX9_addFamily_1 : decode cX9_addFamily 1 = .ok (.getfield 22, 3) := by decide +kernel
theorem dX9_addFamily_4 : decode cX9_addFamily 4 = .ok (.aload_n 0, 1) := by decide +kernel
theorem dX9_addFamily_5 : decode cX9_addFamily 5 = .ok (.getfield 38, 3) := by decide +kernel
theorem dX9_addFamily_8 : decode cX9_addFamily 8 = .ok (.aload_n 1, 1) := by decide +kernel
theorem dX9_addFamily_9 : decode cX9_addFamily 9 = .ok (.iconst 0, 1) := by decide +kernel
theorem dX9_addFamily_10 : decode cX9_addFamily 10 = .ok (.iaload, 1) := by decide +kernel
theorem dX9_addFamily_11 : decode cX9_addFamily 11 = .ok (.iastore, 1) := by decide +kernel
theorem dX9_addFamily_12 : decode cX9_addFamily 12 = .ok (.aload_n 0, 1) := by decide +kernel
theorem dX9_addFamily_13 : decode cX9_addFamily 13 = .ok (.getfield 25, 3) := by decide +kernel
theorem dX9_addFamily_16 : decode cX9_addFamily 16 = .ok (.aload_n 0, 1) := by decide +kernel
theorem dX9_addFamily_17 : decode cX9_addFamily 17 = .ok (.getfield 38, 3) := by decide +kernel
theorem dX9_addFamily_20 : decode cX9_addFamily 20 = .ok (.aload_n 1, 1) := by decide +kernel
theorem dX9_addFamily_21 : decode cX9_addFamily 21 = .ok (.iconst 1, 1) := by decide +kernel
theorem dX9_addFamily_22 : decode cX9_addFamily 22 = .ok (.iaload, 1) := by decide +kernel
theorem dX9_addFamily_23 : decode cX9_addFamily 23 = .ok (.iastore, 1) := by decide +kernel
theorem dX9_addFamily_24 : decode cX9_addFamily 24 = .ok (.aload_n 0, 1) := by decide +kernel
theorem dX9_addFamily_25 : decode cX9_addFamily 25 = .ok (.getfield 28, 3) := by decide +kernel
theorem dX9_addFamily_28 : decode cX9_addFamily 28 = .ok (.aload_n 0, 1) := by decide +kernel
theorem dX9_addFamily_29 : decode cX9_addFamily 29 = .ok (.getfield 38, 3) := by decide +kernel
theorem dX9_addFamily_32 : decode cX9_addFamily 32 = .ok (.aload_n 1, 1) := by decide +kernel
theorem dX9_addFamily_33 : decode cX9_addFamily 33 = .ok (.iconst 2, 1) := by decide +kernel
theorem dX9_addFamily_34 : decode cX9_addFamily 34 = .ok (.iaload, 1) := by decide +kernel
theorem dX9_addFamily_35 : decode cX9_addFamily 35 = .ok (.iastore, 1) := by decide +kernel
theorem dX9_addFamily_36 : decode cX9_addFamily 36 = .ok (.aload_n 0, 1) := by decide +kernel
theorem dX9_addFamily_37 : decode cX9_addFamily 37 = .ok (.getfield 31, 3) := by decide +kernel
theorem dX9_addFamily_40 : decode cX9_addFamily 40 = .ok (.aload_n 0, 1) := by decide +kernel
theorem dX9_addFamily_41 : decode cX9_addFamily 41 = .ok (.getfield 38, 3) := by decide +kernel
theorem dX9_addFamily_44 : decode cX9_addFamily 44 = .ok (.aload_n 1, 1) := by decide +kernel
theorem dX9_addFamily_45 : decode cX9_addFamily 45 = .ok (.iconst 3, 1) := by decide +kernel
theorem dX9_addFamily_46 : decode cX9_addFamily 46 = .ok (.iaload, 1) := by decide +kernel
theorem dX9_addFamily_47 : decode cX9_addFamily 47 = .ok (.iastore, 1) := by decide +kernel
theorem dX9_addFamily_48 : decode cX9_addFamily 48 = .ok (.aload_n 0, 1) := by decide +kernel
theorem dX9_addFamily_49 : decode cX9_addFamily 49 = .ok (.dup, 1) := by decide +kernel
theorem dX9_addFamily_50 : decode cX9_addFamily 50 = .ok (.getfield 38, 3) := by decide +kernel
theorem dX9_addFamily_53 : decode cX9_addFamily 53 = .ok (.iconst 1, 1) := by decide +kernel
theorem dX9_addFamily_54 : decode cX9_addFamily 54 = .ok (.iadd, 1) := by decide +kernel
theorem dX9_addFamily_55 : decode cX9_addFamily 55 = .ok (.putfield 38, 3) := by decide +kernel
theorem dX9_addFamily_58 : decode cX9_addFamily 58 = .ok (.return_, 1) := by decide +kernel
theorem dX9_addLevel_0 : decode cX9_addLevel 0 = .ok (.aload_n 0, 1) := by decide +kernel
theorem dX9_addLevel_1 : decode cX9_addLevel 1 = .ok (.getfield 9, 3) := by decide +kernel
theorem dX9_addLevel_4 : decode cX9_addLevel 4 = .ok (.aload_n 0, 1) := by decide +kernel
theorem dX9_addLevel_5 : decode cX9_addLevel 5 = .ok (.getfield 34, 3) := by decide +kernel
theorem dX9_addLevel_8 : decode cX9_addLevel 8 = .ok (.aload_n 1, 1) := by decide +kernel
theorem dX9_addLevel_9 : decode cX9_addLevel 9 = .ok (.iconst 0, 1) := by decide +kernel
theorem dX9_addLevel_10 : decode cX9_addLevel 10 = .ok (.iaload, 1) := by decide +kernel
theorem dX9_addLevel_11 : decode cX9_addLevel 11 = .ok (.iastore, 1) := by decide +kernel
theorem dX9_addLevel_12 : decode cX9_addLevel 12 = .ok (.aload_n 0, 1) := by decide +kernel
theorem dX9_addLevel_13 : decode cX9_addLevel 13 = .ok (.getfield 13, 3) := by decide +kernel
theorem dX9_addLevel_16 : decode cX9_addLevel 16 = .ok (.aload_n 0, 1) := by decide +kernel
theorem dX9_addLevel_17 : decode cX9_addLevel 17 = .ok (.getfield 34, 3) := by decide +kernel
theorem dX9_addLevel_20 : decode cX9_addLevel 20 = .ok (.aload_n 1, 1) := by decide +kernel
theorem dX9_addLevel_21 : decode cX9_addLevel 21 = .ok (.iconst 1, 1) := by decide +kernel
theorem dX9_addLevel_22 : decode cX9_addLevel 22 = .ok (.iaload, 1) := by decide +kernel
theorem dX9_addLevel_23 : decode cX9_addLevel 23 = .ok (.iastore, 1) := by decide +kernel
theorem dX9_addLevel_24 : decode cX9_addLevel 24 = .ok (.aload_n 0, 1) := by decide +kernel
theorem dX9_addLevel_25 : decode cX9_addLevel 25 = .ok (.getfield 16, 3) := by decide +kernel
theorem dX9_addLevel_28 : decode cX9_addLevel 28 = .ok (.aload_n 0, 1) := by decide +kernel
theorem dX9_addLevel_29 : decode cX9_addLevel 29 = .ok (.getfield 34, 3) := by decide +kernel
theorem dX9_addLevel_32 : decode cX9_addLevel 32 = .ok (.aload_n 1, 1) := by decide +kernel
theorem dX9_addLevel_33 : decode cX9_addLevel 33 = .ok (.iconst 2, 1) := by decide +kernel
theorem dX9_addLevel_34 : decode cX9_addLevel 34 = .ok (.iaload, 1) := by decide +kernel
theorem dX9_addLevel_35 : decode cX9_addLevel 35 = .ok (.iastore, 1) := by decide +kernel
theorem dX9_addLevel_36 : decode cX9_addLevel 36 = .ok (.aload_n 0, 1) := by decide +kernel
theorem dX9_addLevel_37 : decode cX9_addLevel 37 = .ok (.getfield 19, 3) := by decide +kernel
theorem dX9_addLevel_40 : decode cX9_addLevel 40 = .ok (.aload_n 0, 1) := by decide +kernel
theorem dX9_addLevel_41 : decode cX9_addLevel 41 = .ok (.getfield 34, 3) := by decide +kernel
theorem dX9_addLevel_44 : decode cX9_addLevel 44 = .ok (.aload_n 1, 1) := by decide +kernel
theorem dX9_addLevel_45 : decode cX9_addLevel 45 = .ok (.iconst 3, 1) := by decide +kernel
theorem dX9_addLevel_46 : decode cX9_addLevel 46 = .ok (.iaload, 1) := by decide +kernel
theorem dX9_addLevel_47 : decode cX9_addLevel 47 = .ok (.iastore, 1) := by decide +kernel
theorem dX9_addLevel_48 : decode cX9_addLevel 48 = .ok (.aload_n 0, 1) := by decide +kernel
theorem dX9_addLevel_49 : decode cX9_addLevel 49 = .ok (.dup, 1) := by decide +kernel
theorem dX9_addLevel_50 : decode cX9_addLevel 50 = .ok (.getfield 34, 3) := by decide +kernel
theorem dX9_addLevel_53 : decode cX9_addLevel 53 = .ok (.iconst 1, 1) := by decide +kernel
theorem dX9_addLevel_54 : decode cX9_addLevel 54 = .ok (.iadd, 1) := by decide +kernel
theorem dX9_addLevel_55 : decode cX9_addLevel 55 = .ok (.putfield 34, 3) := by decide +kernel
theorem dX9_addLevel_58 : decode cX9_addLevel 58 = .ok (.return_, 1) := by decide +kernel
theorem dX9_clear_0 : decode cX9_clear 0 = .ok (.aload_n 0, 1) := by decide +kernel
theorem dX9_clear_1 : decode cX9_clear 1 = .ok (.iconst 0, 1) := by decide +kernel
theorem dX9_clear_2 : decode cX9_clear 2 = .ok (.putfield 34, 3) := by decide +kernel
theorem dX9_clear_5 : decode cX9_clear 5 = .ok (.aload_n 0, 1) := by decide +kernel
theorem dX9_clear_6 : decode cX9_clear 6 = .ok (.iconst 0, 1) := by decide +kernel
theorem dX9_clear_7 : decode cX9_clear 7 = .ok (.putfield 38, 3) := by decide +kernel
theorem dX9_clear_10 : decode cX9_clear 10 = .ok (.return_, 1) := by decide +kernel
theorem dX9_firstFamiliesAt_0 : decode cX9_firstFamiliesAt 0 = .ok (.iconst 0, 1) := by decide +kernel
theorem dX9_firstFamiliesAt_1 : decode cX9_firstFamiliesAt 1 = .ok (.istore_n 2, 1) := by decide +kernel
theorem dX9_firstFamiliesAt_2 : decode cX9_firstFamiliesAt 2 = .ok (.iconst 0, 1) := by decide +kernel
theorem dX9_firstFamiliesAt_3 : decode cX9_firstFamiliesAt 3 = .ok (.istore_n 3, 1) := by decide +kernel
theorem dX9_firstFamiliesAt_4 : decode cX9_firstFamiliesAt 4 = .ok (.iload_n 3, 1) := by decide +kernel
theorem dX9_firstFamiliesAt_5 : decode cX9_firstFamiliesAt 5 = .ok (.aload_n 0, 1) := by decide +kernel
theorem dX9_firstFamiliesAt_6 : decode cX9_firstFamiliesAt 6 = .ok (.getfield 38, 3) := by decide +kernel
theorem dX9_firstFamiliesAt_9 : decode cX9_firstFamiliesAt 9 = .ok (.if_icmp .ge 27, 3) := by decide +kernel
theorem dX9_firstFamiliesAt_12 : decode cX9_firstFamiliesAt 12 = .ok (.iload_n 2, 1) := by decide +kernel
theorem dX9_firstFamiliesAt_13 : decode cX9_firstFamiliesAt 13 = .ok (.aload_n 0, 1) := by decide +kernel
theorem dX9_firstFamiliesAt_14 : decode cX9_firstFamiliesAt 14 = .ok (.getfield 25, 3) := by decide +kernel
theorem dX9_firstFamiliesAt_17 : decode cX9_firstFamiliesAt 17 = .ok (.iload_n 3, 1) := by decide +kernel
theorem dX9_firstFamiliesAt_18 : decode cX9_firstFamiliesAt 18 = .ok (.iaload, 1) := by decide +kernel
theorem dX9_firstFamiliesAt_19 : decode cX9_firstFamiliesAt 19 = .ok (.iload_n 1, 1) := by decide +kernel
theorem dX9_firstFamiliesAt_20 : decode cX9_firstFamiliesAt 20 = .ok (.if_icmp .ne 7, 3) := by decide +kernel
theorem dX9_firstFamiliesAt_23 : decode cX9_firstFamiliesAt 23 = .ok (.iconst 1, 1) := by decide +kernel
theorem dX9_firstFamiliesAt_24 : decode cX9_firstFamiliesAt 24 = .ok (.goto 4, 3) := by decide +kernel
theorem dX9_firstFamiliesAt_27 : decode cX9_firstFamiliesAt 27 = .ok (.iconst 0, 1) := by decide +kernel
theorem dX9_firstFamiliesAt_28 : decode cX9_firstFamiliesAt 28 = .ok (.iadd, 1) := by decide +kernel
theorem dX9_firstFamiliesAt_29 : decode cX9_firstFamiliesAt 29 = .ok (.istore_n 2, 1) := by decide +kernel
theorem dX9_firstFamiliesAt_30 : decode cX9_firstFamiliesAt 30 = .ok (.iinc 3 1, 3) := by decide +kernel
theorem dX9_firstFamiliesAt_33 : decode cX9_firstFamiliesAt 33 = .ok (.goto (-29), 3) := by decide +kernel
theorem dX9_firstFamiliesAt_36 : decode cX9_firstFamiliesAt 36 = .ok (.iload_n 2, 1) := by decide +kernel
theorem dX9_firstFamiliesAt_37 : decode cX9_firstFamiliesAt 37 = .ok (.ireturn, 1) := by decide +kernel
theorem dX9_isWhole_0 : decode cX9_isWhole 0 = .ok (.aload_n 0, 1) := by decide +kernel
theorem dX9_isWhole_1 : decode cX9_isWhole 1 = .ok (.getfield 34, 3) := by decide +kernel
theorem dX9_isWhole_4 : decode cX9_isWhole 4 = .ok (.iconst 2, 1) := by decide +kernel
theorem dX9_isWhole_5 : decode cX9_isWhole 5 = .ok (.if_icmp .lt 11, 3) := by decide +kernel
theorem dX9_isWhole_8 : decode cX9_isWhole 8 = .ok (.aload_n 0, 1) := by decide +kernel
theorem dX9_isWhole_9 : decode cX9_isWhole 9 = .ok (.getfield 38, 3) := by decide +kernel
theorem dX9_isWhole_12 : decode cX9_isWhole 12 = .ok (.iconst 1, 1) := by decide +kernel
theorem dX9_isWhole_13 : decode cX9_isWhole 13 = .ok (.if_icmp .ge 5, 3) := by decide +kernel
theorem dX9_isWhole_16 : decode cX9_isWhole 16 = .ok (.iconst 0, 1) := by decide +kernel
theorem dX9_isWhole_17 : decode cX9_isWhole 17 = .ok (.ireturn, 1) := by decide +kernel
theorem dX9_isWhole_18 : decode cX9_isWhole 18 = .ok (.iconst 0, 1) := by decide +kernel
theorem dX9_isWhole_19 : decode cX9_isWhole 19 = .ok (.istore_n 1, 1) := by decide +kernel
theorem dX9_isWhole_20 : decode cX9_isWhole 20 = .ok (.iload_n 1, 1) := by decide +kernel
theorem dX9_isWhole_21 : decode cX9_isWhole 21 = .ok (.aload_n 0, 1) := by decide +kernel
theorem dX9_isWhole_22 : decode cX9_isWhole 22 = .ok (.getfield 38, 3) := by decide +kernel
theorem dX9_isWhole_25 : decode cX9_isWhole 25 = .ok (.if_icmp .ge 40, 3) := by decide +kernel
theorem dX9_isWhole_28 : decode cX9_isWhole 28 = .ok (.aload_n 0, 1) := by decide +kernel
theorem dX9_isWhole_29 : decode cX9_isWhole 29 = .ok (.getfield 25, 3) := by decide +kernel
theorem dX9_isWhole_32 : decode cX9_isWhole 32 = .ok (.iload_n 1, 1) := by decide +kernel
theorem dX9_isWhole_33 : decode cX9_isWhole 33 = .ok (.iaload, 1) := by decide +kernel
theorem dX9_isWhole_34 : decode cX9_isWhole 34 = .ok (.istore_n 2, 1) := by decide +kernel
theorem dX9_isWhole_35 : decode cX9_isWhole 35 = .ok (.iload_n 2, 1) := by decide +kernel
theorem dX9_isWhole_36 : decode cX9_isWhole 36 = .ok (.aload_n 0, 1) := by decide +kernel
theorem dX9_isWhole_37 : decode cX9_isWhole 37 = .ok (.getfield 34, 3) := by decide +kernel
theorem dX9_isWhole_40 : decode cX9_isWhole 40 = .ok (.if_icmp .ge 17, 3) := by decide +kernel
theorem dX9_isWhole_43 : decode cX9_isWhole 43 = .ok (.aload_n 0, 1) := by decide +kernel
theorem dX9_isWhole_44 : decode cX9_isWhole 44 = .ok (.iload_n 2, 1) := by decide +kernel
theorem dX9_isWhole_45 : decode cX9_isWhole 45 = .ok (.invokevirtual 41, 3) := by decide +kernel
theorem dX9_isWhole_48 : decode cX9_isWhole 48 = .ok (.aload_n 0, 1) := by decide +kernel
theorem dX9_isWhole_49 : decode cX9_isWhole 49 = .ok (.getfield 9, 3) := by decide +kernel
theorem dX9_isWhole_52 : decode cX9_isWhole 52 = .ok (.iload_n 2, 1) := by decide +kernel
theorem dX9_isWhole_53 : decode cX9_isWhole 53 = .ok (.iaload, 1) := by decide +kernel
theorem dX9_isWhole_54 : decode cX9_isWhole 54 = .ok (.if_icmp .le 5, 3) := by decide +kernel
theorem dX9_isWhole_57 : decode cX9_isWhole 57 = .ok (.iconst 0, 1) := by decide +kernel
theorem dX9_isWhole_58 : decode cX9_isWhole 58 = .ok (.ireturn, 1) := by decide +kernel
theorem dX9_isWhole_59 : decode cX9_isWhole 59 = .ok (.iinc 1 1, 3) := by decide +kernel
theorem dX9_isWhole_62 : decode cX9_isWhole 62 = .ok (.goto (-42), 3) := by decide +kernel
theorem dX9_isWhole_65 : decode cX9_isWhole 65 = .ok (.iconst 1, 1) := by decide +kernel
theorem dX9_isWhole_66 : decode cX9_isWhole 66 = .ok (.ireturn, 1) := by decide +kernel
def w_X9_clear : List Cond := .code yX9_clear cX9_clear 1 none :: ([Cond.fieldLink RX9 34 "HeadYear$Valley" "levels" "I", Cond.fieldLink RX9 38 "HeadYear$Valley" "families" "I"] ++ (u_ws RX9 TX9 10 ++ ([])))
theorem in_X9_clear_X9 : ∀ w ∈ u_ws RX9 TX9 10, w ∈ w_X9_clear := fun _ h => List.mem_cons_of_mem _ (List.mem_append_right _ (List.mem_append_left _ h))
set_option maxHeartbeats 4000000 in
set_option maxRecDepth 100000 in
theorem c_X9_clear (l : Launch) (E : py_E) (G : wf_G) (L : List Nat) (f : py_F) (sz : Nat) (h : Nat) (hG : GT G) (hWF : WF E G L f) (Th : G.1 h = 10) : Met l yX9_clear w_X9_clear ({ frames := 0, cells := 0, slots := 0, locals := 0 }) (py_Pc E [.ref h] L f sz) (py_Qv E L f sz (fun L1 f1 => WF E G L1 f1 ∧ RP E G f f1 ∧ KP G [10] false f f1 ∧ VO G f f1 h)) 0 0 (va_A (va_pl L f) sz) := by
  refine Met.ofW (cc := cX9_clear) (maxL := 1) (ret := none) (by decide) rfl ?_
  intro p e s m args below meth c s₁ B hml hv
  obtain ⟨rfl, rfl, hw⟩ := py_start hv
  have G0 : CallFix p m c cX9_clear 1 s _ w_X9_clear RX9 := ⟨B.exec, B.bytes, hml, findClass_of_methodNamed B.named, atoms_spec (ws := w_X9_clear) B.pre⟩
  have hr := B.returns
  have hlk := B.notSynchronized
  have kcm1 : (-1 : Int32).toInt = -1 := rfl
  have kc0 : (0 : Int32).toInt = 0 := rfl
  have kc1 : (1 : Int32).toInt = 1 := rfl
  have hl := lv_entry ([.ref h]) (n := 1) (Nat.le_of_ble_eq_true rfl)
  rw [lg_entry_eq]
  generalize (lg_sl ([.ref h]) ++ List.replicate (1 - (lg_sl ([.ref h])).length) Slot.unset).toArray = ls at hl ⊢
  have hl : lv_has ls 1 [(0, .ref h)] := hl
  have hRP : RP E G f f := RP.refl
  have hKP : KP G [10] false f f := KP.refl
  have hVO : VO G f f h := VO.refl
  refine lv_aload_n G0.1 G0.2.1 dX9_clear_0 rfl (lv_at hl 0 rfl) ?_
  refine lv_iconst (v := 0) G0.1 G0.2.1 dX9_clear_1 (by decide) ?_
  obtain ⟨t_1, t_2, t_3, t_4, t_5, t_6, t_7, t_8⟩ := wt_9 hG Th
  obtain ⟨v_9, v_10, hr_13, b_11, b_12⟩ := wg_9 hWF Th
  have tq_14 := va_eq hr_13
  refine py_put (C := RX9) (T := TX9) (N := 10) (k := 8) (v := .int 0) (fs' := [.ref (G.2 h 0), .ref (G.2 h 1), .ref (G.2 h 2), .ref (G.2 h 3), .ref (G.2 h 4), .ref (G.2 h 5), .ref (G.2 h 6), .ref (G.2 h 7), .int 0, .int v_10]) (ty0 := tyX9) G0 hw tyX9_ok nmX9 in_X9_clear_X9 rfl hr_13 (by decide) (by decide +kernel) rfl rfl rfl rfl (Nat.le_of_ble_eq_true rfl) rfl dX9_clear_2 (fun f_15 H_16 locs h_17 x_18 hw => ?_)
  have hVO := hVO.upd hWF x_18 (Or.inl rfl)
  have hKP := hKP.upd hWF x_18 Th (Or.inl (by decide))
  have hRP := hRP.trans (rp_upd hG hWF x_18 hr_13.2 h_17.2 (rp_code hG Th (by decide)) rfl)
  have hWF := wf_upd hWF h_17 x_18 (by rw [Th]; exact ⟨0, v_10, rfl, ⟨by omega, by omega⟩, ⟨by omega, by omega⟩⟩)
  have tq_19 := va_eq h_17
  refine lv_aload_n G0.1 G0.2.1 dX9_clear_5 rfl (lv_at hl 0 rfl) ?_
  refine lv_iconst (v := 0) G0.1 G0.2.1 dX9_clear_6 (by decide) ?_
  refine py_put (C := RX9) (T := TX9) (N := 10) (k := 9) (v := .int 0) (fs' := [.ref (G.2 h 0), .ref (G.2 h 1), .ref (G.2 h 2), .ref (G.2 h 3), .ref (G.2 h 4), .ref (G.2 h 5), .ref (G.2 h 6), .ref (G.2 h 7), .int 0, .int 0]) (ty0 := tyX9) G0 hw tyX9_ok nmX9 in_X9_clear_X9 rfl h_17 (by decide) (by decide +kernel) rfl rfl rfl rfl (Nat.le_of_ble_eq_true rfl) rfl dX9_clear_7 (fun f_20 H_21 locs h_22 x_23 hw => ?_)
  have hVO := hVO.upd hWF x_23 (Or.inl rfl)
  have hKP := hKP.upd hWF x_23 Th (Or.inl (by decide))
  have hRP := hRP.trans (rp_upd hG hWF x_23 h_17.2 h_22.2 (rp_code hG Th (by decide)) rfl)
  have hWF := wf_upd hWF h_22 x_23 (by rw [Th]; exact ⟨0, 0, rfl, ⟨by omega, by omega⟩, ⟨by omega, by omega⟩⟩)
  have tq_24 := va_eq h_22
  exact py_vret G0 hr hlk hw ⟨hWF, hRP, hKP, hVO⟩ dX9_clear_10

def w_X9_addLevel : List Cond := .code yX9_addLevel cX9_addLevel 2 none :: ([Cond.fieldLink RX9 9 "HeadYear$Valley" "huts" "[I", Cond.fieldLink RX9 34 "HeadYear$Valley" "levels" "I", Cond.fieldLink RX9 13 "HeadYear$Valley" "food" "[I", Cond.fieldLink RX9 16 "HeadYear$Valley" "danger" "[I", Cond.fieldLink RX9 19 "HeadYear$Valley" "brow" "[I"] ++ (u_ws RX9 TX9 10 ++ ([])))
theorem in_X9_addLevel_X9 : ∀ w ∈ u_ws RX9 TX9 10, w ∈ w_X9_addLevel := fun _ h => List.mem_cons_of_mem _ (List.mem_append_right _ (List.mem_append_left _ h))
set_option maxHeartbeats 4000000 in
set_option maxRecDepth 100000 in
theorem c_X9_addLevel (l : Launch) (E : py_E) (G : wf_G) (L : List Nat) (f : py_F) (sz : Nat) (h : Nat) (a : Nat) (hG : GT G) (hWF : WF E G L f) (Th : G.1 h = 10) (Ta : G.1 a = 36) (hp0 : va_l f h < 8) : Met l yX9_addLevel w_X9_addLevel ({ frames := 0, cells := 0, slots := 0, locals := 0 }) (py_Pc E [.ref h, .ref a] L f sz) (py_Qv E L f sz (fun L1 f1 => WF E G L1 f1 ∧ RP E G f f1 ∧ KP G [10, 24] false f f1 ∧ VO G f f1 h)) 0 0 (va_A (va_pl L f) sz) := by
  refine Met.ofW (cc := cX9_addLevel) (maxL := 2) (ret := none) (by decide) rfl ?_
  intro p e s m args below meth c s₁ B hml hv
  obtain ⟨rfl, rfl, hw⟩ := py_start hv
  have G0 : CallFix p m c cX9_addLevel 2 s _ w_X9_addLevel RX9 := ⟨B.exec, B.bytes, hml, findClass_of_methodNamed B.named, atoms_spec (ws := w_X9_addLevel) B.pre⟩
  have hr := B.returns
  have hlk := B.notSynchronized
  have kcm1 : (-1 : Int32).toInt = -1 := rfl
  have kc0 : (0 : Int32).toInt = 0 := rfl
  have kc1 : (1 : Int32).toInt = 1 := rfl
  have kc2 : (2 : Int32).toInt = 2 := rfl
  have kc3 : (3 : Int32).toInt = 3 := rfl
  have hl := lv_entry ([.ref h, .ref a]) (n := 2) (Nat.le_of_ble_eq_true rfl)
  rw [lg_entry_eq]
  generalize (lg_sl ([.ref h, .ref a]) ++ List.replicate (2 - (lg_sl ([.ref h, .ref a])).length) Slot.unset).toArray = ls at hl ⊢
  have hl : lv_has ls 2 [(0, .ref h), (1, .ref a)] := hl
  have hRP : RP E G f f := RP.refl
  have hKP : KP G [10, 24] false f f := KP.refl
  have hVO : VO G f f h := VO.refl
  refine lv_aload_n G0.1 G0.2.1 dX9_addLevel_0 rfl (lv_at hl 0 rfl) ?_
  obtain ⟨t_1, t_2, t_3, t_4, t_5, t_6, t_7, t_8⟩ := wt_9 hG Th
  obtain ⟨v_9, v_10, hr_13, b_11, b_12⟩ := wg_9 hWF Th
  have tq_14 := va_eq hr_13
  refine py_get (C := RX9) (T := TX9) (N := 10) (k := 0) (v := .ref (G.2 h 0)) G0 hw in_X9_addLevel_X9 rfl hr_13 (by decide) (by decide +kernel) rfl dX9_addLevel_1 ?_
  refine lv_aload_n G0.1 G0.2.1 dX9_addLevel_4 rfl (lv_at hl 0 rfl) ?_
  refine py_get (C := RX9) (T := TX9) (N := 10) (k := 8) (v := .int v_9) G0 hw in_X9_addLevel_X9 rfl hr_13 (by decide) (by decide +kernel) rfl dX9_addLevel_5 ?_
  refine lv_aload_n G0.1 G0.2.1 dX9_addLevel_8 rfl (lv_at hl 1 rfl) ?_
  refine lv_iconst (v := 0) G0.1 G0.2.1 dX9_addLevel_9 (by decide) ?_
  obtain ⟨g_15, ha_16, hi_17⟩ := wf_arr (n := 4) (lo := (-2147483648)) (hi := 2147483647) hWF Ta (by decide) (fun _ => rfl)
  have tq_18 := it_eq ha_16
  have rg_19 : vp_in 0 4 := ti_in (by omega) (by omega)
  refine py_iald G0 hw ha_16 rg_19 dX9_addLevel_10 ?_
  refine lv_topi (fun x_20 ex_20 => ?_)
  have bx_20 := wf_free x_20
  have kx_20 : x_20.toInt = (g_15 0).toInt := by rw [ex_20]; rfl
  obtain ⟨g_21, ha_22, hi_23⟩ := wf_arr (n := 8) (lo := (-2147483648)) (hi := 2147483647) hWF t_1 (by decide) (fun _ => rfl)
  have rg_24 : vp_in v_9 8 := ti_in (by omega) (by omega)
  refine py_iast G0 hw ha_22 rg_24 dX9_addLevel_11 (fun f_25 H_26 locs h_27 x_28 hw => ?_)
  have hVO := hVO.upd hWF x_28 (Or.inr (by rw [t_1]; omega))
  have hKP := hKP.upd hWF x_28 t_1 (Or.inl (by decide))
  have hRP := hRP.trans (rp_upd hG hWF x_28 ha_22.2 h_27.2 (rp_code hG t_1 (by decide)) rfl)
  have hi_29 := wf_inu (k := (v_9 : Int32).toNatClampNeg) (x := x_20) hi_23 (wf_free x_20).1 (wf_free x_20).2
  have hWF := wf_upd hWF h_27 x_28 (by rw [t_1]; exact ⟨_, rfl, hi_29⟩)
  have hr_13 := hr_13.ext x_28 (py_ne_arr hr_13 ha_22)
  have tq_30 := va_eq hr_13
  have ha_16 := ha_16.ext x_28 (wf_ne Ta t_1 (by decide))
  have tq_31 := it_eq ha_16
  refine lv_aload_n G0.1 G0.2.1 dX9_addLevel_12 rfl (lv_at hl 0 rfl) ?_
  refine py_get (C := RX9) (T := TX9) (N := 10) (k := 1) (v := .ref (G.2 h 1)) G0 hw in_X9_addLevel_X9 rfl hr_13 (by decide) (by decide +kernel) rfl dX9_addLevel_13 ?_
  refine lv_aload_n G0.1 G0.2.1 dX9_addLevel_16 rfl (lv_at hl 0 rfl) ?_
  refine py_get (C := RX9) (T := TX9) (N := 10) (k := 8) (v := .int v_9) G0 hw in_X9_addLevel_X9 rfl hr_13 (by decide) (by decide +kernel) rfl dX9_addLevel_17 ?_
  refine lv_aload_n G0.1 G0.2.1 dX9_addLevel_20 rfl (lv_at hl 1 rfl) ?_
  refine lv_iconst (v := 1) G0.1 G0.2.1 dX9_addLevel_21 (by decide) ?_
  have rg_32 : vp_in 1 4 := ti_in (by omega) (by omega)
  refine py_iald G0 hw ha_16 rg_32 dX9_addLevel_22 ?_
  refine lv_topi (fun x_33 ex_33 => ?_)
  have bx_33 := wf_free x_33
  have kx_33 : x_33.toInt = (g_15 1).toInt := by rw [ex_33]; rfl
  obtain ⟨g_34, ha_35, hi_36⟩ := wf_arr (n := 8) (lo := (-2147483648)) (hi := 2147483647) hWF t_2 (by decide) (fun _ => rfl)
  have rg_37 : vp_in v_9 8 := ti_in (by omega) (by omega)
  refine py_iast G0 hw ha_35 rg_37 dX9_addLevel_23 (fun f_38 H_39 locs h_40 x_41 hw => ?_)
  have hVO := hVO.upd hWF x_41 (Or.inr (by rw [t_2]; omega))
  have hKP := hKP.upd hWF x_41 t_2 (Or.inl (by decide))
  have hRP := hRP.trans (rp_upd hG hWF x_41 ha_35.2 h_40.2 (rp_code hG t_2 (by decide)) rfl)
  have hi_42 := wf_inu (k := (v_9 : Int32).toNatClampNeg) (x := x_33) hi_36 (wf_free x_33).1 (wf_free x_33).2
  have hWF := wf_upd hWF h_40 x_41 (by rw [t_2]; exact ⟨_, rfl, hi_42⟩)
  have hr_13 := hr_13.ext x_41 (py_ne_arr hr_13 ha_35)
  have tq_43 := va_eq hr_13
  have ha_16 := ha_16.ext x_41 (wf_ne Ta t_2 (by decide))
  have tq_44 := it_eq ha_16
  refine lv_aload_n G0.1 G0.2.1 dX9_addLevel_24 rfl (lv_at hl 0 rfl) ?_
  refine py_get (C := RX9) (T := TX9) (N := 10) (k := 2) (v := .ref (G.2 h 2)) G0 hw in_X9_addLevel_X9 rfl hr_13 (by decide) (by decide +kernel) rfl dX9_addLevel_25 ?_
  refine lv_aload_n G0.1 G0.2.1 dX9_addLevel_28 rfl (lv_at hl 0 rfl) ?_
  refine py_get (C := RX9) (T := TX9) (N := 10) (k := 8) (v := .int v_9) G0 hw in_X9_addLevel_X9 rfl hr_13 (by decide) (by decide +kernel) rfl dX9_addLevel_29 ?_
  refine lv_aload_n G0.1 G0.2.1 dX9_addLevel_32 rfl (lv_at hl 1 rfl) ?_
  refine lv_iconst (v := 2) G0.1 G0.2.1 dX9_addLevel_33 (by decide) ?_
  have rg_45 : vp_in 2 4 := ti_in (by omega) (by omega)
  refine py_iald G0 hw ha_16 rg_45 dX9_addLevel_34 ?_
  refine lv_topi (fun x_46 ex_46 => ?_)
  have bx_46 := wf_free x_46
  obtain ⟨g_47, ha_48, hi_49⟩ := wf_arr (n := 8) (lo := (-2147483648)) (hi := 2147483647) hWF t_3 (by decide) (fun _ => rfl)
  have rg_50 : vp_in v_9 8 := ti_in (by omega) (by omega)
  refine py_iast G0 hw ha_48 rg_50 dX9_addLevel_35 (fun f_51 H_52 locs h_53 x_54 hw => ?_)
  have hVO := hVO.upd hWF x_54 (Or.inr (by rw [t_3]; omega))
  have hKP := hKP.upd hWF x_54 t_3 (Or.inl (by decide))
  have hRP := hRP.trans (rp_upd hG hWF x_54 ha_48.2 h_53.2 (rp_code hG t_3 (by decide)) rfl)
  have hi_55 := wf_inu (k := (v_9 : Int32).toNatClampNeg) (x := x_46) hi_49 (wf_free x_46).1 (wf_free x_46).2
  have hWF := wf_upd hWF h_53 x_54 (by rw [t_3]; exact ⟨_, rfl, hi_55⟩)
  have hr_13 := hr_13.ext x_54 (py_ne_arr hr_13 ha_48)
  have tq_56 := va_eq hr_13
  have ha_16 := ha_16.ext x_54 (wf_ne Ta t_3 (by decide))
  have tq_57 := it_eq ha_16
  refine lv_aload_n G0.1 G0.2.1 dX9_addLevel_36 rfl (lv_at hl 0 rfl) ?_
  refine py_get (C := RX9) (T := TX9) (N := 10) (k := 3) (v := .ref (G.2 h 3)) G0 hw in_X9_addLevel_X9 rfl hr_13 (by decide) (by decide +kernel) rfl dX9_addLevel_37 ?_
  refine lv_aload_n G0.1 G0.2.1 dX9_addLevel_40 rfl (lv_at hl 0 rfl) ?_
  refine py_get (C := RX9) (T := TX9) (N := 10) (k := 8) (v := .int v_9) G0 hw in_X9_addLevel_X9 rfl hr_13 (by decide) (by decide +kernel) rfl dX9_addLevel_41 ?_
  refine lv_aload_n G0.1 G0.2.1 dX9_addLevel_44 rfl (lv_at hl 1 rfl) ?_
  refine lv_iconst (v := 3) G0.1 G0.2.1 dX9_addLevel_45 (by decide) ?_
  have rg_58 : vp_in 3 4 := ti_in (by omega) (by omega)
  refine py_iald G0 hw ha_16 rg_58 dX9_addLevel_46 ?_
  refine lv_topi (fun x_59 ex_59 => ?_)
  have bx_59 := wf_free x_59
  obtain ⟨g_60, ha_61, hi_62⟩ := wf_arr (n := 8) (lo := (-2147483648)) (hi := 2147483647) hWF t_4 (by decide) (fun _ => rfl)
  have rg_63 : vp_in v_9 8 := ti_in (by omega) (by omega)
  refine py_iast G0 hw ha_61 rg_63 dX9_addLevel_47 (fun f_64 H_65 locs h_66 x_67 hw => ?_)
  have hVO := hVO.upd hWF x_67 (Or.inr (by rw [t_4]; omega))
  have hKP := hKP.upd hWF x_67 t_4 (Or.inl (by decide))
  have hRP := hRP.trans (rp_upd hG hWF x_67 ha_61.2 h_66.2 (rp_code hG t_4 (by decide)) rfl)
  have hi_68 := wf_inu (k := (v_9 : Int32).toNatClampNeg) (x := x_59) hi_62 (wf_free x_59).1 (wf_free x_59).2
  have hWF := wf_upd hWF h_66 x_67 (by rw [t_4]; exact ⟨_, rfl, hi_68⟩)
  have hr_13 := hr_13.ext x_67 (py_ne_arr hr_13 ha_61)
  have tq_69 := va_eq hr_13
  have ha_16 := ha_16.ext x_67 (wf_ne Ta t_4 (by decide))
  have tq_70 := it_eq ha_16
  refine lv_aload_n G0.1 G0.2.1 dX9_addLevel_48 rfl (lv_at hl 0 rfl) ?_
  refine lv_dup G0.1 G0.2.1 dX9_addLevel_49 rfl ?_
  refine py_get (C := RX9) (T := TX9) (N := 10) (k := 8) (v := .int v_9) G0 hw in_X9_addLevel_X9 rfl hr_13 (by decide) (by decide +kernel) rfl dX9_addLevel_50 ?_
  refine lv_iconst (v := 1) G0.1 G0.2.1 dX9_addLevel_53 (by decide) ?_
  refine lv_iadd G0.1 G0.2.1 dX9_addLevel_54 ?_
  refine lv_topi (fun x_71 ex_71 => ?_)
  first | have tx_71 := ti_add ex_71 (by omega) (by omega) | skip
  refine py_put (C := RX9) (T := TX9) (N := 10) (k := 8) (v := .int x_71) (fs' := [.ref (G.2 h 0), .ref (G.2 h 1), .ref (G.2 h 2), .ref (G.2 h 3), .ref (G.2 h 4), .ref (G.2 h 5), .ref (G.2 h 6), .ref (G.2 h 7), .int x_71, .int v_10]) (ty0 := tyX9) G0 hw tyX9_ok nmX9 in_X9_addLevel_X9 rfl hr_13 (by decide) (by decide +kernel) rfl rfl rfl rfl (Nat.le_of_ble_eq_true rfl) rfl dX9_addLevel_55 (fun f_72 H_73 locs h_74 x_75 hw => ?_)
  have hVO := hVO.upd hWF x_75 (Or.inl rfl)
  have hKP := hKP.upd hWF x_75 Th (Or.inl (by decide))
  have hRP := hRP.trans (rp_upd hG hWF x_75 hr_13.2 h_74.2 (rp_code hG Th (by decide)) rfl)
  have hWF := wf_upd hWF h_74 x_75 (by rw [Th]; exact ⟨x_71, v_10, rfl, ⟨by omega, by omega⟩, ⟨by omega, by omega⟩⟩)
  have h_66 := h_66.ext x_75 (Ne.symm (py_ne_arr hr_13 h_66))
  have ha_16 := ha_16.ext x_75 (Ne.symm (py_ne_arr hr_13 ha_16))
  have tq_76 := it_eq ha_16
  have tq_77 := va_eq h_74
  exact py_vret G0 hr hlk hw ⟨hWF, hRP, hKP, hVO⟩ dX9_addLevel_58

def w_X9_addFamily : List Cond := .code yX9_addFamily cX9_addFamily 2 none :: ([Cond.fieldLink RX9 22 "HeadYear$Valley" "firstHeads" "[I", Cond.fieldLink RX9 38 "HeadYear$Valley" "families" "I", Cond.fieldLink RX9 25 "HeadYear$Valley" "firstLevel" "[I", Cond.fieldLink RX9 28 "HeadYear$Valley" "birth" "[I", Cond.fieldLink RX9 31 "HeadYear$Valley" "twin" "[I"] ++ (u_ws RX9 TX9 10 ++ ([])))
theorem in_X9_addFamily_X9 : ∀ w ∈ u_ws RX9 TX9 10, w ∈ w_X9_addFamily := fun _ h => List.mem_cons_of_mem _ (List.mem_append_right _ (List.mem_append_left _ h))
set_option maxHeartbeats 4000000 in
set_option maxRecDepth 100000 in
theorem c_X9_addFamily (l : Launch) (E : py_E) (G : wf_G) (L : List Nat) (f : py_F) (sz : Nat) (h : Nat) (a : Nat) (hG : GT G) (hWF : WF E G L f) (Th : G.1 h = 10) (Ta : G.1 a = 36) (hp0 : va_f f h < 10 ∧ 0 ≤ it0 f a ∧ it0 f a ≤ 20 ∧ 0 ≤ it1 f a ∧ it1 f a ≤ 7) : Met l yX9_addFamily w_X9_addFamily ({ frames := 0, cells := 0, slots := 0, locals := 0 }) (py_Pc E [.ref h, .ref a] L f sz) (py_Qv E L f sz (fun L1 f1 => WF E G L1 f1 ∧ RP E G f f1 ∧ KP G [10, 27, 25, 26] false f f1 ∧ VO G f f1 h)) 0 0 (va_A (va_pl L f) sz) := by
  refine Met.ofW (cc := cX9_addFamily) (maxL := 2) (ret := none) (by decide) rfl ?_
  intro p e s m args below meth c s₁ B hml hv
  obtain ⟨rfl, rfl, hw⟩ := py_start hv
  have G0 : CallFix p m c cX9_addFamily 2 s _ w_X9_addFamily RX9 := ⟨B.exec, B.bytes, hml, findClass_of_methodNamed B.named, atoms_spec (ws := w_X9_addFamily) B.pre⟩
  have hr := B.returns
  have hlk := B.notSynchronized
  have kcm1 : (-1 : Int32).toInt = -1 := rfl
  have kc0 : (0 : Int32).toInt = 0 := rfl
  have kc1 : (1 : Int32).toInt = 1 := rfl
  have kc2 : (2 : Int32).toInt = 2 := rfl
  have kc3 : (3 : Int32).toInt = 3 := rfl
  have hl := lv_entry ([.ref h, .ref a]) (n := 2) (Nat.le_of_ble_eq_true rfl)
  rw [lg_entry_eq]
  generalize (lg_sl ([.ref h, .ref a]) ++ List.replicate (2 - (lg_sl ([.ref h, .ref a])).length) Slot.unset).toArray = ls at hl ⊢
  have hl : lv_has ls 2 [(0, .ref h), (1, .ref a)] := hl
  have hRP : RP E G f f := RP.refl
  have hKP : KP G [10, 27, 25, 26] false f f := KP.refl
  have hVO : VO G f f h := VO.refl
  refine lv_aload_n G0.1 G0.2.1 dX9_addFamily_0 rfl (lv_at hl 0 rfl) ?_
  obtain ⟨t_1, t_2, t_3, t_4, t_5, t_6, t_7, t_8⟩ := wt_9 hG Th
  obtain ⟨v_9, v_10, hr_13, b_11, b_12⟩ := wg_9 hWF Th
  have tq_14 := va_eq hr_13
  refine py_get (C := RX9) (T := TX9) (N := 10) (k := 4) (v := .ref (G.2 h 4)) G0 hw in_X9_addFamily_X9 rfl hr_13 (by decide) (by decide +kernel) rfl dX9_addFamily_1 ?_
  refine lv_aload_n G0.1 G0.2.1 dX9_addFamily_4 rfl (lv_at hl 0 rfl) ?_
  refine py_get (C := RX9) (T := TX9) (N := 10) (k := 9) (v := .int v_10) G0 hw in_X9_addFamily_X9 rfl hr_13 (by decide) (by decide +kernel) rfl dX9_addFamily_5 ?_
  refine lv_aload_n G0.1 G0.2.1 dX9_addFamily_8 rfl (lv_at hl 1 rfl) ?_
  refine lv_iconst (v := 0) G0.1 G0.2.1 dX9_addFamily_9 (by decide) ?_
  obtain ⟨g_15, ha_16, hi_17⟩ := wf_arr (n := 4) (lo := (-2147483648)) (hi := 2147483647) hWF Ta (by decide) (fun _ => rfl)
  have tq_18 := it_eq ha_16
  have rg_19 : vp_in 0 4 := ti_in (by omega) (by omega)
  refine py_iald G0 hw ha_16 rg_19 dX9_addFamily_10 ?_
  refine lv_topi (fun x_20 ex_20 => ?_)
  have bx_20 := wf_free x_20
  have kx_20 : x_20.toInt = (g_15 0).toInt := by rw [ex_20]; rfl
  obtain ⟨g_21, ha_22, hi_23⟩ := wf_arr (n := 10) (lo := 0) (hi := 20) hWF t_5 (by decide) (fun _ => rfl)
  have rg_24 : vp_in v_10 10 := ti_in (by omega) (by omega)
  refine py_iast G0 hw ha_22 rg_24 dX9_addFamily_11 (fun f_25 H_26 locs h_27 x_28 hw => ?_)
  have hVO := hVO.upd hWF x_28 (Or.inr (by rw [t_5]; omega))
  have hKP := hKP.upd hWF x_28 t_5 (Or.inl (by decide))
  have hRP := hRP.trans (rp_upd hG hWF x_28 ha_22.2 h_27.2 (rp_code hG t_5 (by decide)) rfl)
  have hi_29 := wf_inu (k := (v_10 : Int32).toNatClampNeg) (x := x_20) hi_23 (by omega) (by omega)
  have hWF := wf_upd hWF h_27 x_28 (by rw [t_5]; exact ⟨_, rfl, hi_29⟩)
  have hr_13 := hr_13.ext x_28 (py_ne_arr hr_13 ha_22)
  have tq_30 := va_eq hr_13
  have ha_16 := ha_16.ext x_28 (wf_ne Ta t_5 (by decide))
  have tq_31 := it_eq ha_16
  refine lv_aload_n G0.1 G0.2.1 dX9_addFamily_12 rfl (lv_at hl 0 rfl) ?_
  refine py_get (C := RX9) (T := TX9) (N := 10) (k := 5) (v := .ref (G.2 h 5)) G0 hw in_X9_addFamily_X9 rfl hr_13 (by decide) (by decide +kernel) rfl dX9_addFamily_13 ?_
  refine lv_aload_n G0.1 G0.2.1 dX9_addFamily_16 rfl (lv_at hl 0 rfl) ?_
  refine py_get (C := RX9) (T := TX9) (N := 10) (k := 9) (v := .int v_10) G0 hw in_X9_addFamily_X9 rfl hr_13 (by decide) (by decide +kernel) rfl dX9_addFamily_17 ?_
  refine lv_aload_n G0.1 G0.2.1 dX9_addFamily_20 rfl (lv_at hl 1 rfl) ?_
  refine lv_iconst (v := 1) G0.1 G0.2.1 dX9_addFamily_21 (by decide) ?_
  have rg_32 : vp_in 1 4 := ti_in (by omega) (by omega)
  refine py_iald G0 hw ha_16 rg_32 dX9_addFamily_22 ?_
  refine lv_topi (fun x_33 ex_33 => ?_)
  have bx_33 := wf_free x_33
  have kx_33 : x_33.toInt = (g_15 1).toInt := by rw [ex_33]; rfl
  obtain ⟨g_34, ha_35, hi_36⟩ := wf_arr (n := 10) (lo := 0) (hi := 7) hWF t_6 (by decide) (fun _ => rfl)
  have rg_37 : vp_in v_10 10 := ti_in (by omega) (by omega)
  refine py_iast G0 hw ha_35 rg_37 dX9_addFamily_23 (fun f_38 H_39 locs h_40 x_41 hw => ?_)
  have hVO := hVO.upd hWF x_41 (Or.inr (by rw [t_6]; omega))
  have hKP := hKP.upd hWF x_41 t_6 (Or.inl (by decide))
  have hRP := hRP.trans (rp_upd hG hWF x_41 ha_35.2 h_40.2 (rp_code hG t_6 (by decide)) rfl)
  have hi_42 := wf_inu (k := (v_10 : Int32).toNatClampNeg) (x := x_33) hi_36 (by omega) (by omega)
  have hWF := wf_upd hWF h_40 x_41 (by rw [t_6]; exact ⟨_, rfl, hi_42⟩)
  have hr_13 := hr_13.ext x_41 (py_ne_arr hr_13 ha_35)
  have tq_43 := va_eq hr_13
  have h_27 := h_27.ext x_41 (wf_ne t_5 t_6 (by decide))
  have ha_16 := ha_16.ext x_41 (wf_ne Ta t_6 (by decide))
  have tq_44 := it_eq ha_16
  refine lv_aload_n G0.1 G0.2.1 dX9_addFamily_24 rfl (lv_at hl 0 rfl) ?_
  refine py_get (C := RX9) (T := TX9) (N := 10) (k := 6) (v := .ref (G.2 h 6)) G0 hw in_X9_addFamily_X9 rfl hr_13 (by decide) (by decide +kernel) rfl dX9_addFamily_25 ?_
  refine lv_aload_n G0.1 G0.2.1 dX9_addFamily_28 rfl (lv_at hl 0 rfl) ?_
  refine py_get (C := RX9) (T := TX9) (N := 10) (k := 9) (v := .int v_10) G0 hw in_X9_addFamily_X9 rfl hr_13 (by decide) (by decide +kernel) rfl dX9_addFamily_29 ?_
  refine lv_aload_n G0.1 G0.2.1 dX9_addFamily_32 rfl (lv_at hl 1 rfl) ?_
  refine lv_iconst (v := 2) G0.1 G0.2.1 dX9_addFamily_33 (by decide) ?_
  have rg_45 : vp_in 2 4 := ti_in (by omega) (by omega)
  refine py_iald G0 hw ha_16 rg_45 dX9_addFamily_34 ?_
  refine lv_topi (fun x_46 ex_46 => ?_)
  have bx_46 := wf_free x_46
  obtain ⟨g_47, ha_48, hi_49⟩ := wf_arr (n := 10) (lo := (-2147483648)) (hi := 2147483647) hWF t_7 (by decide) (fun _ => rfl)
  have rg_50 : vp_in v_10 10 := ti_in (by omega) (by omega)
  refine py_iast G0 hw ha_48 rg_50 dX9_addFamily_35 (fun f_51 H_52 locs h_53 x_54 hw => ?_)
  have hVO := hVO.upd hWF x_54 (Or.inr (by rw [t_7]; omega))
  have hKP := hKP.upd hWF x_54 t_7 (Or.inl (by decide))
  have hRP := hRP.trans (rp_upd hG hWF x_54 ha_48.2 h_53.2 (rp_code hG t_7 (by decide)) rfl)
  have hi_55 := wf_inu (k := (v_10 : Int32).toNatClampNeg) (x := x_46) hi_49 (wf_free x_46).1 (wf_free x_46).2
  have hWF := wf_upd hWF h_53 x_54 (by rw [t_7]; exact ⟨_, rfl, hi_55⟩)
  have hr_13 := hr_13.ext x_54 (py_ne_arr hr_13 ha_48)
  have tq_56 := va_eq hr_13
  have h_40 := h_40.ext x_54 (wf_ne t_6 t_7 (by decide))
  have h_27 := h_27.ext x_54 (wf_ne t_5 t_7 (by decide))
  have ha_16 := ha_16.ext x_54 (wf_ne Ta t_7 (by decide))
  have tq_57 := it_eq ha_16
  refine lv_aload_n G0.1 G0.2.1 dX9_addFamily_36 rfl (lv_at hl 0 rfl) ?_
  refine py_get (C := RX9) (T := TX9) (N := 10) (k := 7) (v := .ref (G.2 h 7)) G0 hw in_X9_addFamily_X9 rfl hr_13 (by decide) (by decide +kernel) rfl dX9_addFamily_37 ?_
  refine lv_aload_n G0.1 G0.2.1 dX9_addFamily_40 rfl (lv_at hl 0 rfl) ?_
  refine py_get (C := RX9) (T := TX9) (N := 10) (k := 9) (v := .int v_10) G0 hw in_X9_addFamily_X9 rfl hr_13 (by decide) (by decide +kernel) rfl dX9_addFamily_41 ?_
  refine lv_aload_n G0.1 G0.2.1 dX9_addFamily_44 rfl (lv_at hl 1 rfl) ?_
  refine lv_iconst (v := 3) G0.1 G0.2.1 dX9_addFamily_45 (by decide) ?_
  have rg_58 : vp_in 3 4 := ti_in (by omega) (by omega)
  refine py_iald G0 hw ha_16 rg_58 dX9_addFamily_46 ?_
  refine lv_topi (fun x_59 ex_59 => ?_)
  have bx_59 := wf_free x_59
  obtain ⟨g_60, ha_61, hi_62⟩ := wf_arr (n := 10) (lo := (-2147483648)) (hi := 2147483647) hWF t_8 (by decide) (fun _ => rfl)
  have rg_63 : vp_in v_10 10 := ti_in (by omega) (by omega)
  refine py_iast G0 hw ha_61 rg_63 dX9_addFamily_47 (fun f_64 H_65 locs h_66 x_67 hw => ?_)
  have hVO := hVO.upd hWF x_67 (Or.inr (by rw [t_8]; omega))
  have hKP := hKP.upd hWF x_67 t_8 (Or.inl (by decide))
  have hRP := hRP.trans (rp_upd hG hWF x_67 ha_61.2 h_66.2 (rp_code hG t_8 (by decide)) rfl)
  have hi_68 := wf_inu (k := (v_10 : Int32).toNatClampNeg) (x := x_59) hi_62 (wf_free x_59).1 (wf_free x_59).2
  have hWF := wf_upd hWF h_66 x_67 (by rw [t_8]; exact ⟨_, rfl, hi_68⟩)
  have hr_13 := hr_13.ext x_67 (py_ne_arr hr_13 ha_61)
  have tq_69 := va_eq hr_13
  have h_40 := h_40.ext x_67 (wf_ne t_6 t_8 (by decide))
  have h_27 := h_27.ext x_67 (wf_ne t_5 t_8 (by decide))
  have ha_16 := ha_16.ext x_67 (wf_ne Ta t_8 (by decide))
  have tq_70 := it_eq ha_16
  refine lv_aload_n G0.1 G0.2.1 dX9_addFamily_48 rfl (lv_at hl 0 rfl) ?_
  refine lv_dup G0.1 G0.2.1 dX9_addFamily_49 rfl ?_
  refine py_get (C := RX9) (T := TX9) (N := 10) (k := 9) (v := .int v_10) G0 hw in_X9_addFamily_X9 rfl hr_13 (by decide) (by decide +kernel) rfl dX9_addFamily_50 ?_
  refine lv_iconst (v := 1) G0.1 G0.2.1 dX9_addFamily_53 (by decide) ?_
  refine lv_iadd G0.1 G0.2.1 dX9_addFamily_54 ?_
  refine lv_topi (fun x_71 ex_71 => ?_)
  first | have tx_71 := ti_add ex_71 (by omega) (by omega) | skip
  refine py_put (C := RX9) (T := TX9) (N := 10) (k := 9) (v := .int x_71) (fs' := [.ref (G.2 h 0), .ref (G.2 h 1), .ref (G.2 h 2), .ref (G.2 h 3), .ref (G.2 h 4), .ref (G.2 h 5), .ref (G.2 h 6), .ref (G.2 h 7), .int v_9, .int x_71]) (ty0 := tyX9) G0 hw tyX9_ok nmX9 in_X9_addFamily_X9 rfl hr_13 (by decide) (by decide +kernel) rfl rfl rfl rfl (Nat.le_of_ble_eq_true rfl) rfl dX9_addFamily_55 (fun f_72 H_73 locs h_74 x_75 hw => ?_)
  have hVO := hVO.upd hWF x_75 (Or.inl rfl)
  have hKP := hKP.upd hWF x_75 Th (Or.inl (by decide))
  have hRP := hRP.trans (rp_upd hG hWF x_75 hr_13.2 h_74.2 (rp_code hG Th (by decide)) rfl)
  have hWF := wf_upd hWF h_74 x_75 (by rw [Th]; exact ⟨v_9, x_71, rfl, ⟨by omega, by omega⟩, ⟨by omega, by omega⟩⟩)
  have h_66 := h_66.ext x_75 (Ne.symm (py_ne_arr hr_13 h_66))
  have h_40 := h_40.ext x_75 (Ne.symm (py_ne_arr hr_13 h_40))
  have h_27 := h_27.ext x_75 (Ne.symm (py_ne_arr hr_13 h_27))
  have ha_16 := ha_16.ext x_75 (Ne.symm (py_ne_arr hr_13 ha_16))
  have tq_76 := it_eq ha_16
  have tq_77 := va_eq h_74
  exact py_vret G0 hr hlk hw ⟨hWF, hRP, hKP, hVO⟩ dX9_addFamily_58

def w_X9_firstFamiliesAt : List Cond := .code yX9_firstFamiliesAt cX9_firstFamiliesAt 4 (some .int) :: ([Cond.fieldLink RX9 38 "HeadYear$Valley" "families" "I", Cond.fieldLink RX9 25 "HeadYear$Valley" "firstLevel" "[I"] ++ (u_ws RX9 TX9 10 ++ ([])))
theorem in_X9_firstFamiliesAt_X9 : ∀ w ∈ u_ws RX9 TX9 10, w ∈ w_X9_firstFamiliesAt := fun _ h => List.mem_cons_of_mem _ (List.mem_append_right _ (List.mem_append_left _ h))
set_option maxHeartbeats 4000000 in
set_option maxRecDepth 100000 in
theorem c_X9_firstFamiliesAt (l : Launch) (E : py_E) (G : wf_G) (L : List Nat) (f : py_F) (sz : Nat) (h : Nat) (a : Int32) (hG : GT G) (hWF : WF E G L f) (Th : G.1 h = 10) : Met l yX9_firstFamiliesAt w_X9_firstFamiliesAt ({ frames := 0, cells := 0, slots := 0, locals := 0 }) (py_Pc E [.ref h, .int a] L f sz) (py_Qi E L f sz (fun _ L1 f1 => L = L1 ∧ f = f1)) 0 0 (va_A (va_pl L f) sz) := by
  refine Met.ofW (cc := cX9_firstFamiliesAt) (maxL := 4) (ret := (some .int)) (by decide) rfl ?_
  intro p e s m args below meth c s₁ B hml hv
  obtain ⟨rfl, rfl, hw⟩ := py_start hv
  have G0 : CallFix p m c cX9_firstFamiliesAt 4 s _ w_X9_firstFamiliesAt RX9 := ⟨B.exec, B.bytes, hml, findClass_of_methodNamed B.named, atoms_spec (ws := w_X9_firstFamiliesAt) B.pre⟩
  have hr := B.returns
  have hlk := B.notSynchronized
  have kcm1 : (-1 : Int32).toInt = -1 := rfl
  have kc0 : (0 : Int32).toInt = 0 := rfl
  have kc1 : (1 : Int32).toInt = 1 := rfl
  have hl := lv_entry ([.ref h, .int a]) (n := 4) (Nat.le_of_ble_eq_true rfl)
  rw [lg_entry_eq]
  generalize (lg_sl ([.ref h, .int a]) ++ List.replicate (4 - (lg_sl ([.ref h, .int a])).length) Slot.unset).toArray = ls at hl ⊢
  have hl : lv_has ls 4 [(0, .ref h), (1, .int a)] := hl
  have hRP : RP E G f f := RP.refl
  refine lv_iconst (v := 0) G0.1 G0.2.1 dX9_firstFamiliesAt_0 (by decide) ?_
  refine lv_istore_n (lv' := [(2, .int 0), (0, .ref h), (1, .int a)]) G0.1 G0.2.1 dX9_firstFamiliesAt_1 rfl hl (by decide) rfl (fun ls hl => ?_)
  refine lv_iconst (v := 0) G0.1 G0.2.1 dX9_firstFamiliesAt_2 (by decide) ?_
  refine lv_istore_n (lv' := [(3, .int 0), (2, .int 0), (0, .ref h), (1, .int a)]) G0.1 G0.2.1 dX9_firstFamiliesAt_3 rfl hl (by decide) rfl (fun ls hl => ?_)
  have lo_4 : ∀ n_4 : Nat, ∀ (v_1 : Int32) (v_2 : Int32) (H_j4 : Heap) (locs : List Loc) (ls : Array Slot), (2147483647 - v_1.toInt).toNat = n_4 → (0 ≤ v_1.toInt ∧ v_1.toInt ≤ 2147483647) → py_W E (va_A (va_pl L f) s.heap.size) s L f H_j4 locs → lv_has ls 4 [(3, .int v_1), (2, .int v_2), (0, .ref h), (1, .int a)] → W p l e (headSpec w_X9_firstFamiliesAt ({ frames := 0, cells := 0, slots := 0, locals := 0 })).room s m ([.ref h, .int a] : List Value).toArray below meth c H_j4 locs 0 0 (MQ below (py_Qi E L f s.heap.size (fun _ L1 f1 => L = L1 ∧ f = f1)) ([.ref h, .int a] : List Value).toArray s 0 0 (va_A (va_pl L f) s.heap.size)) (F0 m 4 ls []) := by
    intro n_4
    induction n_4 using Nat.strongRecOn with
    | _ n_4 ih_4 =>
      intro v_1 v_2 H_j4 locs ls hn_4 bv_1 hw hl
      refine lv_iload_n G0.1 G0.2.1 dX9_firstFamiliesAt_4 rfl (lv_at hl 0 rfl) ?_
      refine lv_aload_n G0.1 G0.2.1 dX9_firstFamiliesAt_5 rfl (lv_at hl 2 rfl) ?_
      obtain ⟨t_3, t_4, t_5, t_6, t_7, t_8, t_9, t_10⟩ := wt_9 hG Th
      obtain ⟨v_11, v_12, hr_15, b_13, b_14⟩ := wg_9 hWF Th
      have tq_16 := va_eq hr_15
      refine py_get (C := RX9) (T := TX9) (N := 10) (k := 9) (v := .int v_12) G0 hw in_X9_firstFamiliesAt_X9 rfl hr_15 (by decide) (by decide +kernel) rfl dX9_firstFamiliesAt_6 ?_
      refine lv_icmp_ge (tgt := 36) G0.1 G0.2.1 dX9_firstFamiliesAt_9 (by decide) (fun c_17 => ?_) (fun c_17 => ?_)
      · skip
        have tc_17 := ti_le c_17
        refine lv_iload_n G0.1 G0.2.1 dX9_firstFamiliesAt_36 rfl (lv_at hl 1 rfl) ?_
        exact py_iret G0 hr rfl hlk hw ⟨rfl, rfl⟩ dX9_firstFamiliesAt_37
      · skip
        have tc_17 := ti_nle c_17
        refine lv_iload_n G0.1 G0.2.1 dX9_firstFamiliesAt_12 rfl (lv_at hl 1 rfl) ?_
        refine lv_aload_n G0.1 G0.2.1 dX9_firstFamiliesAt_13 rfl (lv_at hl 2 rfl) ?_
        refine py_get (C := RX9) (T := TX9) (N := 10) (k := 5) (v := .ref (G.2 h 5)) G0 hw in_X9_firstFamiliesAt_X9 rfl hr_15 (by decide) (by decide +kernel) rfl dX9_firstFamiliesAt_14 ?_
        refine lv_iload_n G0.1 G0.2.1 dX9_firstFamiliesAt_17 rfl (lv_at hl 0 rfl) ?_
        obtain ⟨g_18, ha_19, hi_20⟩ := wf_arr (n := 10) (lo := 0) (hi := 7) hWF t_8 (by decide) (fun _ => rfl)
        have rg_21 : vp_in v_1 10 := ti_in (by omega) (by omega)
        refine py_iald G0 hw ha_19 rg_21 dX9_firstFamiliesAt_18 ?_
        refine lv_topi (fun x_22 ex_22 => ?_)
        have bx_22 := ti_at hi_20 rg_21 ex_22
        refine lv_iload_n G0.1 G0.2.1 dX9_firstFamiliesAt_19 rfl (lv_at hl 3 rfl) ?_
        have jn_28 : ∀ (v_23 : Int32) (H_j28 : Heap) (locs : List Loc) (ls : Array Slot), (0 ≤ v_23.toInt ∧ v_23.toInt ≤ 1) → py_W E (va_A (va_pl L f) s.heap.size) s L f H_j28 locs → lv_has ls 4 [(3, .int v_1), (2, .int v_2), (0, .ref h), (1, .int a)] → W p l e (headSpec w_X9_firstFamiliesAt ({ frames := 0, cells := 0, slots := 0, locals := 0 })).room s m ([.ref h, .int a] : List Value).toArray below meth c H_j28 locs 0 0 (MQ below (py_Qi E L f s.heap.size (fun _ L1 f1 => L = L1 ∧ f = f1)) ([.ref h, .int a] : List Value).toArray s 0 0 (va_A (va_pl L f) s.heap.size)) (F0 m 28 ls [.int v_23, .int v_2]) := by
          intro v_23 H_j28 locs ls bv_23 hw hl
          refine lv_iadd G0.1 G0.2.1 dX9_firstFamiliesAt_28 ?_
          refine lv_topi (fun x_24 ex_24 => ?_)
          first | have tx_24 := ti_add ex_24 (by omega) (by omega) | skip
          refine lv_istore_n (lv' := [(2, .int x_24), (3, .int v_1), (0, .ref h), (1, .int a)]) G0.1 G0.2.1 dX9_firstFamiliesAt_29 rfl hl (by decide) rfl (fun ls hl => ?_)
          obtain ⟨x_25, ex_25⟩ : ∃ y : Int32, y = v_1 + 1 := ⟨_, rfl⟩
          first | have tx_25 := ti_add ex_25 (by omega) (by omega) | skip
          refine lv_iinc (v := x_25) (lv' := [(3, .int x_25), (2, .int x_24), (0, .ref h), (1, .int a)]) G0.1 G0.2.1 dX9_firstFamiliesAt_30 hl (k := 1) rfl (show _ + (1 : Int32) = _ from ex_25.symm) (by decide) rfl (fun ls hl => ?_)
          refine lv_goto (tgt := 4) G0.1 G0.2.1 dX9_firstFamiliesAt_33 (by decide) ?_
          exact ih_4 ((2147483647 - x_25.toInt).toNat) (by omega) x_25 x_24 _ _ ls rfl ⟨by omega, by omega⟩ hw (lv_sub hl [0, 1, 2, 3] rfl)
        refine lv_icmp_ne (tgt := 27) G0.1 G0.2.1 dX9_firstFamiliesAt_20 (by decide) (fun c_26 => ?_) (fun c_26 => ?_)
        · skip
          have tc_26 := ti_ne c_26
          refine lv_iconst (v := 0) G0.1 G0.2.1 dX9_firstFamiliesAt_27 (by decide) ?_
          exact jn_28 0 _ _ ls ⟨by omega, by omega⟩ hw (lv_sub hl [0, 1, 2, 3] rfl)
        · skip
          have tc_26 := ti_eq c_26
          refine lv_iconst (v := 1) G0.1 G0.2.1 dX9_firstFamiliesAt_23 (by decide) ?_
          refine lv_goto (tgt := 28) G0.1 G0.2.1 dX9_firstFamiliesAt_24 (by decide) ?_
          exact jn_28 1 _ _ ls ⟨by omega, by omega⟩ hw (lv_sub hl [0, 1, 2, 3] rfl)
  exact lo_4 _ 0 0 _ _ ls rfl ⟨by omega, by omega⟩ hw (lv_sub hl [0, 1, 2, 3] rfl)

def w_X9_isWhole : List Cond := .code yX9_isWhole cX9_isWhole 3 (some .boolean) :: ([Cond.fieldLink RX9 34 "HeadYear$Valley" "levels" "I", Cond.fieldLink RX9 38 "HeadYear$Valley" "families" "I", Cond.fieldLink RX9 25 "HeadYear$Valley" "firstLevel" "[I", Cond.methodLink RX9 41 yX9_firstFamiliesAt, Cond.instanceMethod yX9_firstFamiliesAt, Cond.selects RX9 yX9_firstFamiliesAt yX9_firstFamiliesAt, Cond.initialized RX9, Cond.fieldLink RX9 9 "HeadYear$Valley" "huts" "[I"] ++ (u_ws RX9 TX9 10 ++ (w_X9_firstFamiliesAt ++ ([]))))
theorem in_X9_isWhole_X9 : ∀ w ∈ u_ws RX9 TX9 10, w ∈ w_X9_isWhole := fun _ h => List.mem_cons_of_mem _ (List.mem_append_right _ (List.mem_append_left _ h))
theorem gg_X9_isWhole_X9_firstFamiliesAt : GoodIn w_X9_isWhole w_X9_firstFamiliesAt := goodIn_sub (fun _ h => List.mem_cons_of_mem _ (List.mem_append_right _ (List.mem_append_right _ (List.mem_append_left _ h)))) (by decide +kernel)
theorem g_X9_isWhole_X9_firstFamiliesAt_41 : GoodIn w_X9_isWhole (wsV RX9 41 RX9 yX9_firstFamiliesAt w_X9_firstFamiliesAt) := goodIn_app (goodIn_of _ (by decide +kernel)) gg_X9_isWhole_X9_firstFamiliesAt
set_option maxHeartbeats 4000000 in
set_option maxRecDepth 100000 in
theorem c_X9_isWhole (l : Launch) (E : py_E) (G : wf_G) (L : List Nat) (f : py_F) (sz : Nat) (h : Nat) (hG : GT G) (hWF : WF E G L f) (Th : G.1 h = 10) : Met l yX9_isWhole w_X9_isWhole ({ frames := 1, cells := 0, slots := 0, locals := 23 }) (py_Pc E [.ref h] L f sz) (py_Qi E L f sz (fun r L1 f1 => (0 ≤ r.toInt ∧ r.toInt ≤ 1) ∧ (r.toInt ≠ 0 → 2 ≤ va_l f1 h) ∧ L = L1 ∧ f = f1)) 0 0 (va_A (va_pl L f) sz) := by
  refine Met.ofW (cc := cX9_isWhole) (maxL := 3) (ret := (some .boolean)) (by decide) rfl ?_
  intro p e s m args below meth c s₁ B hml hv
  obtain ⟨rfl, rfl, hw⟩ := py_start hv
  have G0 : CallFix p m c cX9_isWhole 3 s _ w_X9_isWhole RX9 := ⟨B.exec, B.bytes, hml, findClass_of_methodNamed B.named, atoms_spec (ws := w_X9_isWhole) B.pre⟩
  have hr := B.returns
  have hlk := B.notSynchronized
  have kcm1 : (-1 : Int32).toInt = -1 := rfl
  have kc0 : (0 : Int32).toInt = 0 := rfl
  have kc1 : (1 : Int32).toInt = 1 := rfl
  have kc2 : (2 : Int32).toInt = 2 := rfl
  have hl := lv_entry ([.ref h]) (n := 3) (Nat.le_of_ble_eq_true rfl)
  rw [lg_entry_eq]
  generalize (lg_sl ([.ref h]) ++ List.replicate (3 - (lg_sl ([.ref h])).length) Slot.unset).toArray = ls at hl ⊢
  have hl : lv_has ls 3 [(0, .ref h)] := hl
  have hRP : RP E G f f := RP.refl
  refine lv_aload_n G0.1 G0.2.1 dX9_isWhole_0 rfl (lv_at hl 0 rfl) ?_
  obtain ⟨t_1, t_2, t_3, t_4, t_5, t_6, t_7, t_8⟩ := wt_9 hG Th
  obtain ⟨v_9, v_10, hr_13, b_11, b_12⟩ := wg_9 hWF Th
  have tq_14 := va_eq hr_13
  refine py_get (C := RX9) (T := TX9) (N := 10) (k := 8) (v := .int v_9) G0 hw in_X9_isWhole_X9 rfl hr_13 (by decide) (by decide +kernel) rfl dX9_isWhole_1 ?_
  refine lv_iconst (v := 2) G0.1 G0.2.1 dX9_isWhole_4 (by decide) ?_
  refine lv_icmp_lt (tgt := 16) G0.1 G0.2.1 dX9_isWhole_5 (by decide) (fun c_15 => ?_) (fun c_15 => ?_)
  · skip
    have tc_15 := ti_lt c_15
    refine lv_iconst (v := 0) G0.1 G0.2.1 dX9_isWhole_16 (by decide) ?_
    exact py_iret G0 hr rfl hlk hw ⟨⟨by omega, by omega⟩, (by first | omega | (intro q; omega)), rfl, rfl⟩ dX9_isWhole_17
  · skip
    have tc_15 := ti_nlt c_15
    refine lv_aload_n G0.1 G0.2.1 dX9_isWhole_8 rfl (lv_at hl 0 rfl) ?_
    refine py_get (C := RX9) (T := TX9) (N := 10) (k := 9) (v := .int v_10) G0 hw in_X9_isWhole_X9 rfl hr_13 (by decide) (by decide +kernel) rfl dX9_isWhole_9 ?_
    refine lv_iconst (v := 1) G0.1 G0.2.1 dX9_isWhole_12 (by decide) ?_
    refine lv_icmp_ge (tgt := 18) G0.1 G0.2.1 dX9_isWhole_13 (by decide) (fun c_16 => ?_) (fun c_16 => ?_)
    · skip
      have tc_16 := ti_le c_16
      refine lv_iconst (v := 0) G0.1 G0.2.1 dX9_isWhole_18 (by decide) ?_
      refine lv_istore_n (lv' := [(1, .int 0), (0, .ref h)]) G0.1 G0.2.1 dX9_isWhole_19 rfl hl (by decide) rfl (fun ls hl => ?_)
      have lo_20 : ∀ n_20 : Nat, ∀ (v_17 : Int32) (H_j20 : Heap) (locs : List Loc) (ls : Array Slot), (2147483647 - v_17.toInt).toNat = n_20 → (0 ≤ v_17.toInt ∧ v_17.toInt ≤ 2147483647) → py_W E (va_A (va_pl L f) s.heap.size) s L f H_j20 locs → lv_has ls 3 [(1, .int v_17), (0, .ref h)] → W p l e (headSpec w_X9_isWhole ({ frames := 1, cells := 0, slots := 0, locals := 23 })).room s m ([.ref h] : List Value).toArray below meth c H_j20 locs 0 0 (MQ below (py_Qi E L f s.heap.size (fun r L1 f1 => (0 ≤ r.toInt ∧ r.toInt ≤ 1) ∧ (r.toInt ≠ 0 → 2 ≤ va_l f1 h) ∧ L = L1 ∧ f = f1)) ([.ref h] : List Value).toArray s 0 0 (va_A (va_pl L f) s.heap.size)) (F0 m 20 ls []) := by
        intro n_20
        induction n_20 using Nat.strongRecOn with
        | _ n_20 ih_20 =>
          intro v_17 H_j20 locs ls hn_20 bv_17 hw hl
          refine lv_iload_n G0.1 G0.2.1 dX9_isWhole_20 rfl (lv_at hl 0 rfl) ?_
          refine lv_aload_n G0.1 G0.2.1 dX9_isWhole_21 rfl (lv_at hl 1 rfl) ?_
          refine py_get (C := RX9) (T := TX9) (N := 10) (k := 9) (v := .int v_10) G0 hw in_X9_isWhole_X9 rfl hr_13 (by decide) (by decide +kernel) rfl dX9_isWhole_22 ?_
          refine lv_icmp_ge (tgt := 65) G0.1 G0.2.1 dX9_isWhole_25 (by decide) (fun c_18 => ?_) (fun c_18 => ?_)
          · skip
            have tc_18 := ti_le c_18
            refine lv_iconst (v := 1) G0.1 G0.2.1 dX9_isWhole_65 (by decide) ?_
            exact py_iret G0 hr rfl hlk hw ⟨⟨by omega, by omega⟩, (by first | omega | (intro q; omega)), rfl, rfl⟩ dX9_isWhole_66
          · skip
            have tc_18 := ti_nle c_18
            refine lv_aload_n G0.1 G0.2.1 dX9_isWhole_28 rfl (lv_at hl 1 rfl) ?_
            refine py_get (C := RX9) (T := TX9) (N := 10) (k := 5) (v := .ref (G.2 h 5)) G0 hw in_X9_isWhole_X9 rfl hr_13 (by decide) (by decide +kernel) rfl dX9_isWhole_29 ?_
            refine lv_iload_n G0.1 G0.2.1 dX9_isWhole_32 rfl (lv_at hl 0 rfl) ?_
            obtain ⟨g_19, ha_20, hi_21⟩ := wf_arr (n := 10) (lo := 0) (hi := 7) hWF t_6 (by decide) (fun _ => rfl)
            have rg_22 : vp_in v_17 10 := ti_in (by omega) (by omega)
            refine py_iald G0 hw ha_20 rg_22 dX9_isWhole_33 ?_
            refine lv_topi (fun x_23 ex_23 => ?_)
            have bx_23 := ti_at hi_21 rg_22 ex_23
            refine lv_istore_n (lv' := [(2, .int x_23), (1, .int v_17), (0, .ref h)]) G0.1 G0.2.1 dX9_isWhole_34 rfl hl (by decide) rfl (fun ls hl => ?_)
            refine lv_iload_n G0.1 G0.2.1 dX9_isWhole_35 rfl (lv_at hl 0 rfl) ?_
            refine lv_aload_n G0.1 G0.2.1 dX9_isWhole_36 rfl (lv_at hl 2 rfl) ?_
            refine py_get (C := RX9) (T := TX9) (N := 10) (k := 8) (v := .int v_9) G0 hw in_X9_isWhole_X9 rfl hr_13 (by decide) (by decide +kernel) rfl dX9_isWhole_37 ?_
            refine lv_icmp_ge (tgt := 57) G0.1 G0.2.1 dX9_isWhole_40 (by decide) (fun c_24 => ?_) (fun c_24 => ?_)
            · skip
              have tc_24 := ti_le c_24
              refine lv_iconst (v := 0) G0.1 G0.2.1 dX9_isWhole_57 (by decide) ?_
              exact py_iret G0 hr rfl hlk hw ⟨⟨by omega, by omega⟩, (by first | omega | (intro q; omega)), rfl, rfl⟩ dX9_isWhole_58
            · skip
              have tc_24 := ti_nle c_24
              refine lv_aload_n G0.1 G0.2.1 dX9_isWhole_43 rfl (lv_at hl 2 rfl) ?_
              refine lv_iload_n G0.1 G0.2.1 dX9_isWhole_44 rfl (lv_at hl 0 rfl) ?_
              refine py_calli hw (va_runV (As := [.int x_23]) (rest := []) G0 (c_X9_firstFamiliesAt l E G L f H_j20.size h x_23 hG hWF Th) (cwV 1 G0.2.2.2.2 g_X9_isWhole_X9_firstFamiliesAt_41 rfl rfl rfl (by decide +kernel) ⟨(Nat.le_of_ble_eq_true rfl), (Nat.le_of_ble_eq_true rfl)⟩) (py_preV hw (C := RX9) (T := TX9) (N := 10) rfl hr_13) rfl rfl hl.1 rfl (lv_room (Nat.le_of_ble_eq_true rfl)) dX9_isWhole_45 ⟨(Nat.le_of_ble_eq_true rfl), (Nat.le_of_ble_eq_true rfl)⟩) (fun r_29 L_25 f_26 H_27 locs hp_28 hw => ?_)
              obtain ⟨rfl, rfl⟩ := hp_28
              have br_29 := wf_free r_29
              refine lv_aload_n G0.1 G0.2.1 dX9_isWhole_48 rfl (lv_at hl 2 rfl) ?_
              refine py_get (C := RX9) (T := TX9) (N := 10) (k := 0) (v := .ref (G.2 h 0)) G0 hw in_X9_isWhole_X9 rfl hr_13 (by decide) (by decide +kernel) rfl dX9_isWhole_49 ?_
              refine lv_iload_n G0.1 G0.2.1 dX9_isWhole_52 rfl (lv_at hl 0 rfl) ?_
              obtain ⟨g_30, ha_31, hi_32⟩ := wf_arr (n := 8) (lo := (-2147483648)) (hi := 2147483647) hWF t_1 (by decide) (fun _ => rfl)
              have rg_33 : vp_in x_23 8 := ti_in (by omega) (by omega)
              refine py_iald G0 hw ha_31 rg_33 dX9_isWhole_53 ?_
              refine lv_topi (fun x_34 ex_34 => ?_)
              have bx_34 := wf_free x_34
              refine lv_icmp_le (tgt := 59) G0.1 G0.2.1 dX9_isWhole_54 (by decide) (fun c_35 => ?_) (fun c_35 => ?_)
              · skip
                have tc_35 := ti_le c_35
                obtain ⟨x_36, ex_36⟩ : ∃ y : Int32, y = v_17 + 1 := ⟨_, rfl⟩
                first | have tx_36 := ti_add ex_36 (by omega) (by omega) | skip
                refine lv_iinc (v := x_36) (lv' := [(1, .int x_36), (2, .int x_23), (0, .ref h)]) G0.1 G0.2.1 dX9_isWhole_59 hl (k := 1) rfl (show _ + (1 : Int32) = _ from ex_36.symm) (by decide) rfl (fun ls hl => ?_)
                refine lv_goto (tgt := 20) G0.1 G0.2.1 dX9_isWhole_62 (by decide) ?_
                exact ih_20 ((2147483647 - x_36.toInt).toNat) (by omega) x_36 _ _ ls rfl ⟨by omega, by omega⟩ hw (lv_sub hl [0, 2] rfl)
              · skip
                have tc_35 := ti_nle c_35
                refine lv_iconst (v := 0) G0.1 G0.2.1 dX9_isWhole_57 (by decide) ?_
                exact py_iret G0 hr rfl hlk hw ⟨⟨by omega, by omega⟩, (by first | omega | (intro q; omega)), rfl, rfl⟩ dX9_isWhole_58
      exact lo_20 _ 0 _ _ ls rfl ⟨by omega, by omega⟩ hw (lv_sub hl [0, 1] rfl)
    · skip
      have tc_16 := ti_nle c_16
      refine lv_iconst (v := 0) G0.1 G0.2.1 dX9_isWhole_16 (by decide) ?_
      exact py_iret G0 hr rfl hlk hw ⟨⟨by omega, by omega⟩, (by first | omega | (intro q; omega)), rfl, rfl⟩ dX9_isWhole_17

def w_X10_itemOf : List Cond := .code yX10_itemOf cX10_itemOf 3 (some .int) :: ([Cond.fieldLink RX10 87 "HeadYear$ValleyReader" "LETTERS" "[C"] ++ ([]))
set_option maxHeartbeats 4000000 in
set_option maxRecDepth 100000 in
theorem c_X10_itemOf (l : Launch) (E : py_E) (G : wf_G) (L : List Nat) (f : py_F) (sz : Nat) (a : Int32) (q : Int32) (hG : GT G) (hWF : WF E G L f) (hp0 : q.toInt = 0 ∨ q.toInt = 4) : Met l yX10_itemOf w_X10_itemOf ({ frames := 0, cells := 0, slots := 0, locals := 0 }) (py_Pc E [.int a, .int q] L f sz) (py_Qi E L f sz (fun r L1 f1 => ((-1) ≤ r.toInt ∧ r.toInt ≤ 3) ∧ (r.toInt ≠ -1 → a.toInt ≠ 0) ∧ L = L1 ∧ f = f1)) 0 0 (va_A (va_pl L f) sz) := by
  refine Met.ofW (cc := cX10_itemOf) (maxL := 3) (ret := (some .int)) (by decide) rfl ?_
  intro p e s m args below meth c s₁ B hml hv
  obtain ⟨rfl, rfl, hw⟩ := py_start hv
  have G0 : CallFix p m c cX10_itemOf 3 s _ w_X10_itemOf RX10 := ⟨B.exec, B.bytes, hml, findClass_of_methodNamed B.named, atoms_spec (ws := w_X10_itemOf) B.pre⟩
  have hr := B.returns
  have hlk := B.notSynchronized
  have kcm1 : (-1 : Int32).toInt = -1 := rfl
  have kc0 : (0 : Int32).toInt = 0 := rfl
  have kc1 : (1 : Int32).toInt = 1 := rfl
  have kc4 : (4 : Int32).toInt = 4 := rfl
  have hl := lv_entry ([.int a, .int q]) (n := 3) (Nat.le_of_ble_eq_true rfl)
  rw [lg_entry_eq]
  generalize (lg_sl ([.int a, .int q]) ++ List.replicate (3 - (lg_sl ([.int a, .int q])).length) Slot.unset).toArray = ls at hl ⊢
  have hl : lv_has ls 3 [(0, .int a), (1, .int q)] := hl
  have hRP : RP E G f f := RP.refl
  refine lv_iconst (v := 0) G0.1 G0.2.1 dX10_itemOf_0 (by decide) ?_
  refine lv_istore_n (lv' := [(2, .int 0), (0, .int a), (1, .int q)]) G0.1 G0.2.1 dX10_itemOf_1 rfl hl (by decide) rfl (fun ls hl => ?_)
  have lo_2 : ∀ n_2 : Nat, ∀ (v_1 : Int32) (H_j2 : Heap) (locs : List Loc) (ls : Array Slot), (2147483647 - v_1.toInt).toNat = n_2 → (0 ≤ v_1.toInt ∧ v_1.toInt ≤ 4) → py_W E (va_A (va_pl L f) s.heap.size) s L f H_j2 locs → lv_has ls 3 [(2, .int v_1), (0, .int a), (1, .int q)] → W p l e (headSpec w_X10_itemOf ({ frames := 0, cells := 0, slots := 0, locals := 0 })).room s m ([.int a, .int q] : List Value).toArray below meth c H_j2 locs 0 0 (MQ below (py_Qi E L f s.heap.size (fun r L1 f1 => ((-1) ≤ r.toInt ∧ r.toInt ≤ 3) ∧ (r.toInt ≠ -1 → a.toInt ≠ 0) ∧ L = L1 ∧ f = f1)) ([.int a, .int q] : List Value).toArray s 0 0 (va_A (va_pl L f) s.heap.size)) (F0 m 2 ls []) := by
    intro n_2
    induction n_2 using Nat.strongRecOn with
    | _ n_2 ih_2 =>
      intro v_1 H_j2 locs ls hn_2 bv_1 hw hl
      refine lv_iload_n G0.1 G0.2.1 dX10_itemOf_2 rfl (lv_at hl 0 rfl) ?_
      refine lv_iconst (v := 4) G0.1 G0.2.1 dX10_itemOf_3 (by decide) ?_
      refine lv_icmp_ge (tgt := 26) G0.1 G0.2.1 dX10_itemOf_4 (by decide) (fun c_2 => ?_) (fun c_2 => ?_)
      · skip
        have tc_2 := ti_le c_2
        refine lv_iconst (v := (-1)) G0.1 G0.2.1 dX10_itemOf_26 (by decide) ?_
        exact py_iret G0 hr rfl hlk hw ⟨⟨by omega, by omega⟩, (by first | omega | (intro q; omega)), rfl, rfl⟩ dX10_itemOf_27
      · skip
        have tc_2 := ti_nle c_2
        obtain ⟨st_3, z_4, T_5⟩ := hw.2.2.2.2.2.2.1
        refine va_gets (C := "HeadYear$ValleyReader") G0.1 G0.2.1 z_4 hw.2.2.2.1 G0.2.2.2.1 (G0.2.2.2.2 (Cond.fieldLink RX10 87 "HeadYear$ValleyReader" "LETTERS" "[C") (by decide +kernel)) (fun _ h => h) dX10_itemOf_7 ?_
        refine lv_iload_n G0.1 G0.2.1 dX10_itemOf_10 rfl (lv_at hl 2 rfl) ?_
        refine lv_iload_n G0.1 G0.2.1 dX10_itemOf_11 rfl (lv_at hl 0 rfl) ?_
        refine lv_iadd G0.1 G0.2.1 dX10_itemOf_12 ?_
        refine lv_topi (fun x_6 ex_6 => ?_)
        first | have tx_6 := ti_add ex_6 (by omega) (by omega) | skip
        have rg_7 : vp_in x_6 8 := ti_in (by omega) (by omega)
        refine va_tc (v := .int (st_VL.getD (x_6 : Int32).toNatClampNeg 0)) G0.1 G0.2.1 T_5 hw.2.2.2.1 rg_7 rfl dX10_itemOf_13 ?_
        refine lv_topi (fun x_8 ex_8 => ?_)
        have bx_8 := st_VL_b rg_7 ex_8
        refine lv_iload_n G0.1 G0.2.1 dX10_itemOf_14 rfl (lv_at hl 1 rfl) ?_
        refine lv_icmp_ne (tgt := 20) G0.1 G0.2.1 dX10_itemOf_15 (by decide) (fun c_9 => ?_) (fun c_9 => ?_)
        · skip
          have tc_9 := ti_ne c_9
          obtain ⟨x_10, ex_10⟩ : ∃ y : Int32, y = v_1 + 1 := ⟨_, rfl⟩
          first | have tx_10 := ti_add ex_10 (by omega) (by omega) | skip
          refine lv_iinc (v := x_10) (lv' := [(2, .int x_10), (0, .int a), (1, .int q)]) G0.1 G0.2.1 dX10_itemOf_20 hl (k := 0) rfl (show _ + (1 : Int32) = _ from ex_10.symm) (by decide) rfl (fun ls hl => ?_)
          refine lv_goto (tgt := 2) G0.1 G0.2.1 dX10_itemOf_23 (by decide) ?_
          exact ih_2 ((2147483647 - x_10.toInt).toNat) (by omega) x_10 _ _ ls rfl ⟨by omega, by omega⟩ hw (lv_sub hl [0, 1, 2] rfl)
        · skip
          have tc_9 := ti_eq c_9
          refine lv_iload_n G0.1 G0.2.1 dX10_itemOf_18 rfl (lv_at hl 0 rfl) ?_
          exact py_iret G0 hr rfl hlk hw ⟨⟨by omega, by omega⟩, (by first | omega | (intro q; omega)), rfl, rfl⟩ dX10_itemOf_19
  exact lo_2 _ 0 _ _ ls rfl ⟨by omega, by omega⟩ hw (lv_sub hl [0, 1, 2] rfl)

def w_X10_readItems : List Cond := .code yX10_readItems cX10_readItems 6 (some .boolean) :: ([Cond.methodLink RX10 39 yX8_next, Cond.instanceMethod yX8_next, Cond.selects RX8 yX8_next yX8_next, Cond.initialized RX8, Cond.methodLink RX10 70 yX10_itemOf, Cond.static yX10_itemOf, Cond.initialized RX10, Cond.fieldLink RX10 22 "HeadYear$Tape" "at" "I", Cond.fieldLink RX10 74 "HeadYear$ValleyReader" "LEAST" "[I", Cond.fieldLink RX10 77 "HeadYear$ValleyReader" "MOST" "[I", Cond.methodLink RX10 80 yX8_takeNumberWithin, Cond.instanceMethod yX8_takeNumberWithin, Cond.selects RX8 yX8_takeNumberWithin yX8_takeNumberWithin, Cond.fieldLink RX10 11 "HeadYear$ValleyReader" "items" "[I", Cond.fieldLink RX10 84 "HeadYear$Tape" "number" "I", Cond.fieldLink RX10 67 "HeadYear$ValleyReader" "USUAL" "[I"] ++ (u_ws RX8 TX8 4 ++ (u_ws RX10 TX10 2 ++ (w_X8_next ++ (w_X10_itemOf ++ (w_X8_takeNumberWithin ++ ([])))))))
theorem in_X10_readItems_X8 : ∀ w ∈ u_ws RX8 TX8 4, w ∈ w_X10_readItems := fun _ h => List.mem_cons_of_mem _ (List.mem_append_right _ (List.mem_append_left _ h))
theorem in_X10_readItems_X10 : ∀ w ∈ u_ws RX10 TX10 2, w ∈ w_X10_readItems := fun _ h => List.mem_cons_of_mem _ (List.mem_append_right _ (List.mem_append_right _ (List.mem_append_left _ h)))
theorem gg_X10_readItems_X8_next : GoodIn w_X10_readItems w_X8_next := goodIn_sub (fun _ h => List.mem_cons_of_mem _ (List.mem_append_right _ (List.mem_append_right _ (List.mem_append_right _ (List.mem_append_left _ h))))) (by decide +kernel)
theorem gg_X10_readItems_X10_itemOf : GoodIn w_X10_readItems w_X10_itemOf := goodIn_sub (fun _ h => List.mem_cons_of_mem _ (List.mem_append_right _ (List.mem_append_right _ (List.mem_append_right _ (List.mem_append_right _ (List.mem_append_left _ h)))))) (by decide +kernel)
theorem gg_X10_readItems_X8_takeNumberWithin : GoodIn w_X10_readItems w_X8_takeNumberWithin := goodIn_sub (fun _ h => List.mem_cons_of_mem _ (List.mem_append_right _ (List.mem_append_right _ (List.mem_append_right _ (List.mem_append_right _ (List.mem_append_right _ (List.mem_append_left _ h))))))) (by decide +kernel)
theorem g_X10_readItems_X10_itemOf_70 : GoodIn w_X10_readItems (va_wsS RX10 70 yX10_itemOf w_X10_itemOf) := goodIn_app (goodIn_of _ (by decide +kernel)) gg_X10_readItems_X10_itemOf
theorem g_X10_readItems_X8_next_39 : GoodIn w_X10_readItems (wsV RX10 39 RX8 yX8_next w_X8_next) := goodIn_app (goodIn_of _ (by decide +kernel)) gg_X10_readItems_X8_next
theorem g_X10_readItems_X8_takeNumberWithin_80 : GoodIn w_X10_readItems (wsV RX10 80 RX8 yX8_takeNumberWithin w_X8_takeNumberWithin) := goodIn_app (goodIn_of _ (by decide +kernel)) gg_X10_readItems_X8_takeNumberWithin
set_option maxHeartbeats 4000000 in
set_option maxRecDepth 100000 in
theorem c_X10_readItems (l : Launch) (E : py_E) (G : wf_G) (L : List Nat) (f : py_F) (sz : Nat) (h : Nat) (t : Nat) (q : Int32) (hG : GT G) (hWF : WF E G L f) (Th : G.1 h = 11) (Tt : G.1 t = 9) (hp0 : q.toInt = 0 ∨ q.toInt = 4) : Met l yX10_readItems w_X10_readItems ({ frames := 3, cells := 0, slots := 0, locals := 65 }) (py_Pc E [.ref h, .ref t, .int q] L f sz) (py_Qi E L f sz (fun r L1 f1 => (0 ≤ r.toInt ∧ r.toInt ≤ 1) ∧ (q.toInt = 4 → 0 ≤ it0 f1 (G.2 h 0) ∧ it0 f1 (G.2 h 0) ≤ 20 ∧ 0 ≤ it1 f1 (G.2 h 0) ∧ it1 f1 (G.2 h 0) ≤ 7) ∧ WF E G L1 f1 ∧ RP E G f f1 ∧ KP G [9, 36] false f f1)) 0 0 (va_A (va_pl L f) sz) := by
  refine Met.ofW (cc := cX10_readItems) (maxL := 6) (ret := (some .boolean)) (by decide) rfl ?_
  intro p e s m args below meth c s₁ B hml hv
  obtain ⟨rfl, rfl, hw⟩ := py_start hv
  have G0 : CallFix p m c cX10_readItems 6 s _ w_X10_readItems RX10 := ⟨B.exec, B.bytes, hml, findClass_of_methodNamed B.named, atoms_spec (ws := w_X10_readItems) B.pre⟩
  have hr := B.returns
  have hlk := B.notSynchronized
  have kcm1 : (-1 : Int32).toInt = -1 := rfl
  have kc0 : (0 : Int32).toInt = 0 := rfl
  have kc1 : (1 : Int32).toInt = 1 := rfl
  have kc3 : (3 : Int32).toInt = 3 := rfl
  have kc4 : (4 : Int32).toInt = 4 := rfl
  have hl := lv_entry ([.ref h, .ref t, .int q]) (n := 6) (Nat.le_of_ble_eq_true rfl)
  rw [lg_entry_eq]
  generalize (lg_sl ([.ref h, .ref t, .int q]) ++ List.replicate (6 - (lg_sl ([.ref h, .ref t, .int q])).length) Slot.unset).toArray = ls at hl ⊢
  have hl : lv_has ls 6 [(0, .ref h), (1, .ref t), (2, .int q)] := hl
  have hRP : RP E G f f := RP.refl
  have hKP : KP G [9, 36] false f f := KP.refl
  refine lv_iconst (v := 0) G0.1 G0.2.1 dX10_readItems_0 (by decide) ?_
  refine lv_istore_n (lv' := [(3, .int 0), (0, .ref h), (1, .ref t), (2, .int q)]) G0.1 G0.2.1 dX10_readItems_1 rfl hl (by decide) rfl (fun ls hl => ?_)
  have lo_2 : ∀ n_2 : Nat, ∀ (v_1 : Int32) (L_j2 : List Nat) (f_j2 : py_F) (H_j2 : Heap) (locs : List Loc) (ls : Array Slot), (2147483647 - v_1.toInt).toNat = n_2 → (0 ≤ v_1.toInt ∧ v_1.toInt ≤ 4) → WF E G L_j2 f_j2 → RP E G f f_j2 → KP G [9, 36] false f f_j2 → (q.toInt = 4 → 1 ≤ v_1.toInt → 0 ≤ it0 f_j2 (G.2 h 0) ∧ it0 f_j2 (G.2 h 0) ≤ 20) → (q.toInt = 4 → 2 ≤ v_1.toInt → 0 ≤ it1 f_j2 (G.2 h 0) ∧ it1 f_j2 (G.2 h 0) ≤ 7) → py_W E (va_A (va_pl L f) s.heap.size) s L_j2 f_j2 H_j2 locs → lv_has ls 6 [(3, .int v_1), (0, .ref h), (1, .ref t), (2, .int q)] → W p l e (headSpec w_X10_readItems ({ frames := 3, cells := 0, slots := 0, locals := 65 })).room s m ([.ref h, .ref t, .int q] : List Value).toArray below meth c H_j2 locs 0 0 (MQ below (py_Qi E L f s.heap.size (fun r L1 f1 => (0 ≤ r.toInt ∧ r.toInt ≤ 1) ∧ (q.toInt = 4 → 0 ≤ it0 f1 (G.2 h 0) ∧ it0 f1 (G.2 h 0) ≤ 20 ∧ 0 ≤ it1 f1 (G.2 h 0) ∧ it1 f1 (G.2 h 0) ≤ 7) ∧ WF E G L1 f1 ∧ RP E G f f1 ∧ KP G [9, 36] false f f1)) ([.ref h, .ref t, .int q] : List Value).toArray s 0 0 (va_A (va_pl L f) s.heap.size)) (F0 m 2 ls []) := by
    intro n_2
    induction n_2 using Nat.strongRecOn with
    | _ n_2 ih_2 =>
      intro v_1 L_j2 f_j2 H_j2 locs ls hn_2 bv_1 hWF hRP hKP iv0 iv1 hw hl
      refine lv_iload_n G0.1 G0.2.1 dX10_readItems_2 rfl (lv_at hl 0 rfl) ?_
      refine lv_iconst (v := 4) G0.1 G0.2.1 dX10_readItems_3 (by decide) ?_
      refine lv_icmp_ge (tgt := 26) G0.1 G0.2.1 dX10_readItems_4 (by decide) (fun c_2 => ?_) (fun c_2 => ?_)
      · skip
        have tc_2 := ti_le c_2
        refine lv_iconst (v := 0) G0.1 G0.2.1 dX10_readItems_26 (by decide) ?_
        refine lv_istore_n (lv' := [(3, .int 0), (0, .ref h), (1, .ref t), (2, .int q)]) G0.1 G0.2.1 dX10_readItems_27 rfl hl (by decide) rfl (fun ls hl => ?_)
        refine lv_iconst (v := 0) G0.1 G0.2.1 dX10_readItems_28 (by decide) ?_
        refine lv_istore (lv' := [(4, .int 0), (3, .int 0), (0, .ref h), (1, .ref t), (2, .int q)]) G0.1 G0.2.1 dX10_readItems_29 hl (by decide) rfl (fun ls hl => ?_)
        have lo_31 : ∀ n_31 : Nat, ∀ (v_3 : Int32) (v_4 : Int32) (L_j31 : List Nat) (f_j31 : py_F) (H_j31 : Heap) (locs : List Loc) (ls : Array Slot), (2147483647 - v_3.toInt).toNat = n_31 → (0 ≤ v_3.toInt ∧ v_3.toInt ≤ 2147483647) → WF E G L_j31 f_j31 → RP E G f f_j31 → KP G [9, 36] false f f_j31 → (q.toInt = 4 → 0 ≤ it0 f_j31 (G.2 h 0) ∧ it0 f_j31 (G.2 h 0) ≤ 20 ∧ 0 ≤ it1 f_j31 (G.2 h 0) ∧ it1 f_j31 (G.2 h 0) ≤ 7) → py_W E (va_A (va_pl L f) s.heap.size) s L_j31 f_j31 H_j31 locs → lv_has ls 6 [(4, .int v_3), (3, .int v_4), (0, .ref h), (1, .ref t), (2, .int q)] → W p l e (headSpec w_X10_readItems ({ frames := 3, cells := 0, slots := 0, locals := 65 })).room s m ([.ref h, .ref t, .int q] : List Value).toArray below meth c H_j31 locs 0 0 (MQ below (py_Qi E L f s.heap.size (fun r L1 f1 => (0 ≤ r.toInt ∧ r.toInt ≤ 1) ∧ (q.toInt = 4 → 0 ≤ it0 f1 (G.2 h 0) ∧ it0 f1 (G.2 h 0) ≤ 20 ∧ 0 ≤ it1 f1 (G.2 h 0) ∧ it1 f1 (G.2 h 0) ≤ 7) ∧ WF E G L1 f1 ∧ RP E G f f1 ∧ KP G [9, 36] false f f1)) ([.ref h, .ref t, .int q] : List Value).toArray s 0 0 (va_A (va_pl L f) s.heap.size)) (F0 m 31 ls []) := by
          intro n_31
          induction n_31 using Nat.strongRecOn with
          | _ n_31 ih_31 =>
            intro v_3 v_4 L_j31 f_j31 H_j31 locs ls hn_31 bv_3 hWF hRP hKP iv0 hw hl
            refine lv_iload G0.1 G0.2.1 dX10_readItems_31 (lv_at hl 0 rfl) ?_
            refine lv_iconst (v := 4) G0.1 G0.2.1 dX10_readItems_33 (by decide) ?_
            refine lv_icmp_gt (tgt := 127) G0.1 G0.2.1 dX10_readItems_34 (by decide) (fun c_5 => ?_) (fun c_5 => ?_)
            · skip
              have tc_5 := ti_lt c_5
              refine lv_iconst (v := 1) G0.1 G0.2.1 dX10_readItems_127 (by decide) ?_
              have t_6 := wt_10 hG Th
              obtain ⟨r_7, hr_9, ty_8⟩ := wg_10 hWF Th
              have tq_10 := rd_eq hr_9
              have t_11 := wt_8 hG Tt
              obtain ⟨v_12, v_13, v_14, hr_17, b_15, b_16⟩ := wg_8 hWF Tt
              have bv_14 := wf_free v_14
              have tq_18 := tp_eq hr_17
              obtain ⟨g_19, ha_20, hi_21⟩ := wf_arr (n := 4) (lo := (-2147483648)) (hi := 2147483647) hWF t_6 (by decide) (fun _ => rfl)
              have tq_22 := it_eq ha_20
              exact py_iret G0 hr rfl hlk hw ⟨⟨by omega, by omega⟩, (by first | omega | (intro q; omega)), hWF, hRP, hKP⟩ dX10_readItems_128
            · skip
              have tc_5 := ti_nlt c_5
              refine lv_aload_n G0.1 G0.2.1 dX10_readItems_37 rfl (lv_at hl 3 rfl) ?_
              have t_23 := wt_8 hG Tt
              obtain ⟨v_24, v_25, v_26, hr_29, b_27, b_28⟩ := wg_8 hWF Tt
              have bv_26 := wf_free v_26
              have tq_30 := tp_eq hr_29
              have t_31 := wt_10 hG Th
              obtain ⟨g_32, ha_33, hi_34⟩ := wf_arr (n := 4) (lo := (-2147483648)) (hi := 2147483647) hWF t_31 (by decide) (fun _ => rfl)
              have tq_35 := it_eq ha_33
              refine py_calli hw (va_runV (As := []) (rest := []) G0 (c_X8_next l E G L_j31 f_j31 H_j31.size t hG hWF Tt) (cwV 0 G0.2.2.2.2 g_X10_readItems_X8_next_39 rfl rfl rfl (by decide +kernel) ⟨(Nat.le_of_ble_eq_true rfl), (Nat.le_of_ble_eq_true rfl)⟩) (py_preV hw (C := RX8) (T := TX8) (N := 4) rfl hr_29) rfl rfl hl.1 rfl (lv_room (Nat.le_of_ble_eq_true rfl)) dX10_readItems_38 ⟨(Nat.le_of_ble_eq_true rfl), (Nat.le_of_ble_eq_true rfl)⟩) (fun r_40 L_36 f_37 H_38 locs hp_39 hw => ?_)
              obtain ⟨en_41, hWF, hq_42, kp_43⟩ := hp_39
              have hRP := hRP.trans hq_42
              have hKP := hKP.trans kp_43 (by decide) (by decide)
              have ha_33 := kp_at kp_43 hWF t_31 (by decide) (by decide) (by decide) ha_33
              have tq_44 := it_eq ha_33
              have br_40 := wf_free r_40
              refine lv_iload_n G0.1 G0.2.1 dX10_readItems_41 rfl (lv_at hl 4 rfl) ?_
              refine py_calli hw (va_runS (As := [.int r_40, .int q]) (rest := []) G0 (c_X10_itemOf l E G L_36 f_37 H_38.size r_40 q hG hWF (show q.toInt = 0 ∨ q.toInt = 4 by omega)) (va_cwS 2 G0.2.2.2.2 g_X10_readItems_X10_itemOf_70 rfl rfl rfl (by decide +kernel) ⟨(Nat.le_of_ble_eq_true rfl), (Nat.le_of_ble_eq_true rfl)⟩) (py_preS hw) rfl rfl hl.1 rfl (lv_room (Nat.le_of_ble_eq_true rfl)) dX10_readItems_42 ⟨(Nat.le_of_ble_eq_true rfl), (Nat.le_of_ble_eq_true rfl)⟩) (fun r_49 L_45 f_46 H_47 locs hp_48 hw => ?_)
              obtain ⟨b_51, en_50, rfl, rfl⟩ := hp_48
              refine lv_istore (lv' := [(5, .int r_49), (4, .int v_3), (3, .int v_4), (0, .ref h), (1, .ref t), (2, .int q)]) G0.1 G0.2.1 dX10_readItems_45 hl (by decide) rfl (fun ls hl => ?_)
              refine lv_iload G0.1 G0.2.1 dX10_readItems_47 (lv_at hl 0 rfl) ?_
              refine lv_iconst (v := (-1)) G0.1 G0.2.1 dX10_readItems_49 (by decide) ?_
              refine lv_icmp_ne (tgt := 55) G0.1 G0.2.1 dX10_readItems_50 (by decide) (fun c_52 => ?_) (fun c_52 => ?_)
              · skip
                have tc_52 := ti_ne c_52
                refine lv_iload_n G0.1 G0.2.1 dX10_readItems_55 rfl (lv_at hl 2 rfl) ?_
                refine lv_iload G0.1 G0.2.1 dX10_readItems_56 (lv_at hl 0 rfl) ?_
                refine lv_ishr G0.1 G0.2.1 dX10_readItems_58 ?_
                refine lv_topi (fun x_53 ex_53 => ?_)
                refine lv_iconst (v := 1) G0.1 G0.2.1 dX10_readItems_59 (by decide) ?_
                refine lv_iand G0.1 G0.2.1 dX10_readItems_60 ?_
                refine lv_topi (fun x_54 ex_54 => ?_)
                refine lv_iconst (v := 1) G0.1 G0.2.1 dX10_readItems_61 (by decide) ?_
                refine lv_icmp_ne (tgt := 67) G0.1 G0.2.1 dX10_readItems_62 (by decide) (fun c_55 => ?_) (fun c_55 => ?_)
                · skip
                  have tc_55 := ti_ne c_55
                  refine lv_iload_n G0.1 G0.2.1 dX10_readItems_67 rfl (lv_at hl 2 rfl) ?_
                  refine lv_iconst (v := 1) G0.1 G0.2.1 dX10_readItems_68 (by decide) ?_
                  refine lv_iload G0.1 G0.2.1 dX10_readItems_69 (lv_at hl 0 rfl) ?_
                  refine lv_ishl G0.1 G0.2.1 dX10_readItems_71 ?_
                  refine lv_topi (fun x_56 ex_56 => ?_)
                  first | have bx_56 : 0 ≤ x_56.toInt ∧ x_56.toInt ≤ 512 := (by rcases ti_ten r_49 (by omega) (by omega) with h | h | h | h | h | h | h | h | h | h <;> (rw [ex_56, h]; decide +kernel)) | skip
                  refine lv_ior G0.1 G0.2.1 dX10_readItems_72 ?_
                  refine lv_topi (fun x_57 ex_57 => ?_)
                  first | have bx_57 := ti_or ex_57 ⟨by omega, by omega⟩ ⟨by omega, by omega⟩ | skip
                  refine lv_istore_n (lv' := [(3, .int x_57), (5, .int r_49), (4, .int v_3), (0, .ref h), (1, .ref t), (2, .int q)]) G0.1 G0.2.1 dX10_readItems_73 rfl hl (by decide) rfl (fun ls hl => ?_)
                  refine lv_aload_n G0.1 G0.2.1 dX10_readItems_74 rfl (lv_at hl 4 rfl) ?_
                  refine lv_dup G0.1 G0.2.1 dX10_readItems_75 rfl ?_
                  obtain ⟨v_58, v_59, v_60, hr_63, b_61, b_62⟩ := wg_8 hWF Tt
                  have bv_60 := wf_free v_60
                  have tq_64 := tp_eq hr_63
                  refine py_get (C := RX8) (T := TX8) (N := 4) (k := 2) (v := .int v_59) G0 hw in_X10_readItems_X8 rfl hr_63 (by decide) (by decide +kernel) rfl dX10_readItems_76 ?_
                  refine lv_iconst (v := 1) G0.1 G0.2.1 dX10_readItems_79 (by decide) ?_
                  refine lv_iadd G0.1 G0.2.1 dX10_readItems_80 ?_
                  refine lv_topi (fun x_65 ex_65 => ?_)
                  first | have tx_65 := ti_add ex_65 (by omega) (by omega) | skip
                  refine py_put (C := RX8) (T := TX8) (N := 4) (k := 2) (v := .int x_65) (fs' := [.ref (G.2 t 0), .int v_58, .int x_65, .int v_60]) (ty0 := tyX8) G0 hw tyX8_ok nmX8 in_X10_readItems_X8 rfl hr_63 (by decide) (by decide +kernel) rfl rfl rfl rfl (Nat.le_of_ble_eq_true rfl) rfl dX10_readItems_81 (fun f_66 H_67 locs h_68 x_69 hw => ?_)
                  have hKP := hKP.upd hWF x_69 Tt (Or.inl (by decide))
                  have hRP := hRP.trans (rp_upd hG hWF x_69 hr_63.2 h_68.2 (rp_code hG Tt (by decide)) rfl)
                  have hWF := wf_upd hWF h_68 x_69 (by rw [Tt]; exact ⟨v_58, x_65, v_60, rfl, ⟨by omega, by omega⟩, ⟨by omega, by omega⟩⟩)
                  have ha_33 := ha_33.ext x_69 (Ne.symm (py_ne_arr hr_63 ha_33))
                  have tq_70 := it_eq ha_33
                  have tq_71 := tp_eq h_68
                  refine lv_aload_n G0.1 G0.2.1 dX10_readItems_84 rfl (lv_at hl 4 rfl) ?_
                  refine lv_iconst (v := 3) G0.1 G0.2.1 dX10_readItems_85 (by decide) ?_
                  obtain ⟨st_72, z_73, T_74⟩ := hw.2.2.2.2.2.2.2.1
                  refine va_gets (C := "HeadYear$ValleyReader") G0.1 G0.2.1 z_73 hw.2.2.2.1 G0.2.2.2.1 (G0.2.2.2.2 (Cond.fieldLink RX10 74 "HeadYear$ValleyReader" "LEAST" "[I") (by decide +kernel)) (fun _ h => h) dX10_readItems_86 ?_
                  refine lv_iload_n G0.1 G0.2.1 dX10_readItems_89 rfl (lv_at hl 5 rfl) ?_
                  refine lv_iload G0.1 G0.2.1 dX10_readItems_90 (lv_at hl 1 rfl) ?_
                  refine lv_iadd G0.1 G0.2.1 dX10_readItems_92 ?_
                  refine lv_topi (fun x_75 ex_75 => ?_)
                  first | have tx_75 := ti_add ex_75 (by omega) (by omega) | skip
                  have rg_76 : vp_in x_75 8 := ti_in (by omega) (by omega)
                  refine va_ti (v := .int (st_LE.getD (x_75 : Int32).toNatClampNeg 0)) G0.1 G0.2.1 T_74 hw.2.2.2.1 rg_76 rfl dX10_readItems_93 ?_
                  refine lv_topi (fun x_77 ex_77 => ?_)
                  have bx_77 := st_LE_b rg_76 ex_77
                  obtain ⟨st_78, z_79, T_80⟩ := hw.2.2.2.2.2.2.2.2.1
                  refine va_gets (C := "HeadYear$ValleyReader") G0.1 G0.2.1 z_79 hw.2.2.2.1 G0.2.2.2.1 (G0.2.2.2.2 (Cond.fieldLink RX10 77 "HeadYear$ValleyReader" "MOST" "[I") (by decide +kernel)) (fun _ h => h) dX10_readItems_94 ?_
                  refine lv_iload_n G0.1 G0.2.1 dX10_readItems_97 rfl (lv_at hl 5 rfl) ?_
                  refine lv_iload G0.1 G0.2.1 dX10_readItems_98 (lv_at hl 1 rfl) ?_
                  refine lv_iadd G0.1 G0.2.1 dX10_readItems_100 ?_
                  refine lv_topi (fun x_81 ex_81 => ?_)
                  first | have tx_81 := ti_add ex_81 (by omega) (by omega) | skip
                  have rg_82 : vp_in x_81 8 := ti_in (by omega) (by omega)
                  refine va_ti (v := .int (st_MO.getD (x_81 : Int32).toNatClampNeg 0)) G0.1 G0.2.1 T_80 hw.2.2.2.1 rg_82 rfl dX10_readItems_101 ?_
                  refine lv_topi (fun x_83 ex_83 => ?_)
                  have bx_83 := st_MO_b rg_82 ex_83
                  refine py_calli hw (va_runV (As := [.int 3, .int x_77, .int x_83]) (rest := []) G0 (c_X8_takeNumberWithin l E G L_36 f_66 H_67.size t 3 x_77 x_83 hG hWF Tt ⟨by omega, by omega⟩) (cwV 3 G0.2.2.2.2 g_X10_readItems_X8_takeNumberWithin_80 rfl rfl rfl (by decide +kernel) ⟨(Nat.le_of_ble_eq_true rfl), (Nat.le_of_ble_eq_true rfl)⟩) (py_preV hw (C := RX8) (T := TX8) (N := 4) rfl h_68) rfl rfl hl.1 rfl (lv_room (Nat.le_of_ble_eq_true rfl)) dX10_readItems_102 ⟨(Nat.le_of_ble_eq_true rfl), (Nat.le_of_ble_eq_true rfl)⟩) (fun r_88 L_84 f_85 H_86 locs hp_87 hw => ?_)
                  obtain ⟨b_90, en_89, hWF, hq_91, kp_92⟩ := hp_87
                  have hRP := hRP.trans hq_91
                  have hKP := hKP.trans kp_92 (by decide) (by decide)
                  have ha_33 := kp_at kp_92 hWF t_31 (by decide) (by decide) (by decide) ha_33
                  have tq_93 := it_eq ha_33
                  refine lv_if_ne (tgt := 110) G0.1 G0.2.1 dX10_readItems_105 (by decide) (fun c_94 => ?_) (fun c_94 => ?_)
                  · skip
                    have tc_94 := ti_ne c_94
                    refine lv_aload_n G0.1 G0.2.1 dX10_readItems_110 rfl (lv_at hl 3 rfl) ?_
                    obtain ⟨r_95, hr_97, ty_96⟩ := wg_10 hWF Th
                    have tq_98 := rd_eq hr_97
                    refine py_get (C := RX10) (T := TX10) (N := 2) (k := 0) (v := .ref (G.2 h 0)) G0 hw in_X10_readItems_X10 rfl hr_97 (by decide) (by decide +kernel) rfl dX10_readItems_111 ?_
                    refine lv_iload G0.1 G0.2.1 dX10_readItems_114 (lv_at hl 1 rfl) ?_
                    refine lv_aload_n G0.1 G0.2.1 dX10_readItems_116 rfl (lv_at hl 4 rfl) ?_
                    obtain ⟨v_99, v_100, v_101, hr_104, b_102, b_103⟩ := wg_8 hWF Tt
                    have bv_101 := wf_free v_101
                    have tq_105 := tp_eq hr_104
                    refine py_get (C := RX8) (T := TX8) (N := 4) (k := 3) (v := .int v_101) G0 hw in_X10_readItems_X8 rfl hr_104 (by decide) (by decide +kernel) rfl dX10_readItems_117 ?_
                    have rg_106 : vp_in r_49 4 := ti_in (by omega) (by omega)
                    refine py_iast G0 hw ha_33 rg_106 dX10_readItems_120 (fun f_107 H_108 locs h_109 x_110 hw => ?_)
                    have hKP := hKP.upd hWF x_110 t_31 (Or.inl (by decide))
                    have hRP := hRP.trans (rp_upd hG hWF x_110 ha_33.2 h_109.2 (rp_code hG t_31 (by decide)) rfl)
                    have hi_111 := wf_inu (k := (r_49 : Int32).toNatClampNeg) (x := v_101) hi_34 (wf_free v_101).1 (wf_free v_101).2
                    have hWF := wf_upd hWF h_109 x_110 (by rw [t_31]; exact ⟨_, rfl, hi_111⟩)
                    have hr_97 := hr_97.ext x_110 (py_ne_arr hr_97 ha_33)
                    have tq_112 := rd_eq hr_97
                    have hr_104 := hr_104.ext x_110 (py_ne_arr hr_104 ha_33)
                    have tq_113 := tp_eq hr_104
                    have tu_114 := it_up (g := g_32) (v := v_101) rg_106
                    have tq_115 := it_eq h_109
                    obtain ⟨x_116, ex_116⟩ : ∃ y : Int32, y = v_3 + 1 := ⟨_, rfl⟩
                    first | have tx_116 := ti_add ex_116 (by omega) (by omega) | skip
                    refine lv_iinc (v := x_116) (lv' := [(4, .int x_116), (3, .int x_57), (5, .int r_49), (0, .ref h), (1, .ref t), (2, .int q)]) G0.1 G0.2.1 dX10_readItems_121 hl (k := 2) rfl (show _ + (1 : Int32) = _ from ex_116.symm) (by decide) rfl (fun ls hl => ?_)
                    refine lv_goto (tgt := 31) G0.1 G0.2.1 dX10_readItems_124 (by decide) ?_
                    exact ih_31 ((2147483647 - x_116.toInt).toNat) (by omega) x_116 x_57 L_84 f_107 _ _ ls rfl ⟨by omega, by omega⟩ hWF hRP hKP (by first | omega | (intros; omega)) hw (lv_sub hl [0, 1, 3, 4, 5] rfl)
                  · skip
                    have tc_94 := ti_eq c_94
                    refine lv_iconst (v := 0) G0.1 G0.2.1 dX10_readItems_108 (by decide) ?_
                    obtain ⟨r_117, hr_119, ty_118⟩ := wg_10 hWF Th
                    have tq_120 := rd_eq hr_119
                    obtain ⟨v_121, v_122, v_123, hr_126, b_124, b_125⟩ := wg_8 hWF Tt
                    have bv_123 := wf_free v_123
                    have tq_127 := tp_eq hr_126
                    exact py_iret G0 hr rfl hlk hw ⟨⟨by omega, by omega⟩, (by first | omega | (intro q; omega)), hWF, hRP, hKP⟩ dX10_readItems_109
                · skip
                  have tc_55 := ti_eq c_55
                  refine lv_iconst (v := 0) G0.1 G0.2.1 dX10_readItems_65 (by decide) ?_
                  obtain ⟨r_128, hr_130, ty_129⟩ := wg_10 hWF Th
                  have tq_131 := rd_eq hr_130
                  obtain ⟨v_132, v_133, v_134, hr_137, b_135, b_136⟩ := wg_8 hWF Tt
                  have bv_134 := wf_free v_134
                  have tq_138 := tp_eq hr_137
                  exact py_iret G0 hr rfl hlk hw ⟨⟨by omega, by omega⟩, (by first | omega | (intro q; omega)), hWF, hRP, hKP⟩ dX10_readItems_66
              · skip
                have tc_52 := ti_eq c_52
                refine lv_iconst (v := 1) G0.1 G0.2.1 dX10_readItems_53 (by decide) ?_
                obtain ⟨r_139, hr_141, ty_140⟩ := wg_10 hWF Th
                have tq_142 := rd_eq hr_141
                obtain ⟨v_143, v_144, v_145, hr_148, b_146, b_147⟩ := wg_8 hWF Tt
                have bv_145 := wf_free v_145
                have tq_149 := tp_eq hr_148
                exact py_iret G0 hr rfl hlk hw ⟨⟨by omega, by omega⟩, (by first | omega | (intro q; omega)), hWF, hRP, hKP⟩ dX10_readItems_54
        exact lo_31 _ 0 0 L_j2 f_j2 _ _ ls rfl ⟨by omega, by omega⟩ hWF hRP hKP (by first | omega | (intros; omega)) hw (lv_sub hl [0, 1, 2, 3, 4] rfl)
      · skip
        have tc_2 := ti_nle c_2
        refine lv_aload_n G0.1 G0.2.1 dX10_readItems_7 rfl (lv_at hl 1 rfl) ?_
        have t_150 := wt_10 hG Th
        obtain ⟨r_151, hr_153, ty_152⟩ := wg_10 hWF Th
        have tq_154 := rd_eq hr_153
        refine py_get (C := RX10) (T := TX10) (N := 2) (k := 0) (v := .ref (G.2 h 0)) G0 hw in_X10_readItems_X10 rfl hr_153 (by decide) (by decide +kernel) rfl dX10_readItems_8 ?_
        refine lv_iload_n G0.1 G0.2.1 dX10_readItems_11 rfl (lv_at hl 0 rfl) ?_
        obtain ⟨st_155, z_156, T_157⟩ := hw.2.2.2.2.2.2.2.2.2.1
        refine va_gets (C := "HeadYear$ValleyReader") G0.1 G0.2.1 z_156 hw.2.2.2.1 G0.2.2.2.1 (G0.2.2.2.2 (Cond.fieldLink RX10 67 "HeadYear$ValleyReader" "USUAL" "[I") (by decide +kernel)) (fun _ h => h) dX10_readItems_12 ?_
        refine lv_iload_n G0.1 G0.2.1 dX10_readItems_15 rfl (lv_at hl 3 rfl) ?_
        refine lv_iload_n G0.1 G0.2.1 dX10_readItems_16 rfl (lv_at hl 0 rfl) ?_
        refine lv_iadd G0.1 G0.2.1 dX10_readItems_17 ?_
        refine lv_topi (fun x_158 ex_158 => ?_)
        first | have tx_158 := ti_add ex_158 (by omega) (by omega) | skip
        have rg_159 : vp_in x_158 8 := ti_in (by omega) (by omega)
        refine va_ti (v := .int (st_US.getD (x_158 : Int32).toNatClampNeg 0)) G0.1 G0.2.1 T_157 hw.2.2.2.1 rg_159 rfl dX10_readItems_18 ?_
        refine lv_topi (fun x_160 ex_160 => ?_)
        have bx_160 := st_US_b rg_159 ex_160
        obtain ⟨g_161, ha_162, hi_163⟩ := wf_arr (n := 4) (lo := (-2147483648)) (hi := 2147483647) hWF t_150 (by decide) (fun _ => rfl)
        have tq_164 := it_eq ha_162
        have rg_165 : vp_in v_1 4 := ti_in (by omega) (by omega)
        refine py_iast G0 hw ha_162 rg_165 dX10_readItems_19 (fun f_166 H_167 locs h_168 x_169 hw => ?_)
        have hKP := hKP.upd hWF x_169 t_150 (Or.inl (by decide))
        have hRP := hRP.trans (rp_upd hG hWF x_169 ha_162.2 h_168.2 (rp_code hG t_150 (by decide)) rfl)
        have hi_170 := wf_inu (k := (v_1 : Int32).toNatClampNeg) (x := x_160) hi_163 (wf_free x_160).1 (wf_free x_160).2
        have hWF := wf_upd hWF h_168 x_169 (by rw [t_150]; exact ⟨_, rfl, hi_170⟩)
        have hr_153 := hr_153.ext x_169 (py_ne_arr hr_153 ha_162)
        have tq_171 := rd_eq hr_153
        have tu_172 := it_up (g := g_161) (v := x_160) rg_165
        have tq_173 := it_eq h_168
        obtain ⟨x_174, ex_174⟩ : ∃ y : Int32, y = v_1 + 1 := ⟨_, rfl⟩
        first | have tx_174 := ti_add ex_174 (by omega) (by omega) | skip
        refine lv_iinc (v := x_174) (lv' := [(3, .int x_174), (0, .ref h), (1, .ref t), (2, .int q)]) G0.1 G0.2.1 dX10_readItems_20 hl (k := 0) rfl (show _ + (1 : Int32) = _ from ex_174.symm) (by decide) rfl (fun ls hl => ?_)
        refine lv_goto (tgt := 2) G0.1 G0.2.1 dX10_readItems_23 (by decide) ?_
        exact ih_2 ((2147483647 - x_174.toInt).toNat) (by omega) x_174 L_j2 f_166 _ _ ls rfl ⟨by omega, by omega⟩ hWF hRP hKP (by first | omega | (intros; omega)) (by first | omega | (intros; omega)) hw (lv_sub hl [0, 1, 2, 3] rfl)
  exact lo_2 _ 0 L f _ _ ls rfl ⟨by omega, by omega⟩ hWF hRP hKP (by first | omega | (intros; omega)) (by first | omega | (intros; omega)) hw (lv_sub hl [0, 1, 2, 3] rfl)

def w_X10_readClause : List Cond := .code yX10_readClause cX10_readClause 4 (some .boolean) :: ([Cond.methodLink RX10 39 yX8_next, Cond.instanceMethod yX8_next, Cond.selects RX8 yX8_next yX8_next, Cond.initialized RX8, Cond.fieldLink RX10 18 "HeadYear$ValleyReader" "draft" "LHeadYear$Valley;", Cond.fieldLink RX10 61 "HeadYear$Valley" "families" "I", Cond.fieldLink RX10 22 "HeadYear$Tape" "at" "I", Cond.methodLink RX10 53 yX10_readItems, Cond.instanceMethod yX10_readItems, Cond.selects RX10 yX10_readItems yX10_readItems, Cond.initialized RX10, Cond.fieldLink RX10 11 "HeadYear$ValleyReader" "items" "[I", Cond.methodLink RX10 64 yX9_addFamily, Cond.instanceMethod yX9_addFamily, Cond.selects RX9 yX9_addFamily yX9_addFamily, Cond.initialized RX9, Cond.fieldLink RX10 50 "HeadYear$Valley" "levels" "I", Cond.methodLink RX10 57 yX9_addLevel, Cond.instanceMethod yX9_addLevel, Cond.selects RX9 yX9_addLevel yX9_addLevel] ++ (u_ws RX10 TX10 2 ++ (u_ws RX9 TX9 10 ++ (u_ws RX8 TX8 4 ++ (w_X8_next ++ (w_X10_readItems ++ (w_X9_addFamily ++ (w_X9_addLevel ++ ([])))))))))
theorem in_X10_readClause_X10 : ∀ w ∈ u_ws RX10 TX10 2, w ∈ w_X10_readClause := fun _ h => List.mem_cons_of_mem _ (List.mem_append_right _ (List.mem_append_left _ h))
theorem in_X10_readClause_X9 : ∀ w ∈ u_ws RX9 TX9 10, w ∈ w_X10_readClause := fun _ h => List.mem_cons_of_mem _ (List.mem_append_right _ (List.mem_append_right _ (List.mem_append_left _ h)))
theorem in_X10_readClause_X8 : ∀ w ∈ u_ws RX8 TX8 4, w ∈ w_X10_readClause := fun _ h => List.mem_cons_of_mem _ (List.mem_append_right _ (List.mem_append_right _ (List.mem_append_right _ (List.mem_append_left _ h))))
theorem gg_X10_readClause_X8_next : GoodIn w_X10_readClause w_X8_next := goodIn_sub (fun _ h => List.mem_cons_of_mem _ (List.mem_append_right _ (List.mem_append_right _ (List.mem_append_right _ (List.mem_append_right _ (List.mem_append_left _ h)))))) (by decide +kernel)
theorem gg_X10_readClause_X10_readItems : GoodIn w_X10_readClause w_X10_readItems := goodIn_sub (fun _ h => List.mem_cons_of_mem _ (List.mem_append_right _ (List.mem_append_right _ (List.mem_append_right _ (List.mem_append_right _ (List.mem_append_right _ (List.mem_append_left _ h))))))) (by decide +kernel)
theorem gg_X10_readClause_X9_addFamily : GoodIn w_X10_readClause w_X9_addFamily := goodIn_sub (fun _ h => List.mem_cons_of_mem _ (List.mem_append_right _ (List.mem_append_right _ (List.mem_append_right _ (List.mem_append_right _ (List.mem_append_right _ (List.mem_append_right _ (List.mem_append_left _ h)))))))) (by decide +kernel)
theorem gg_X10_readClause_X9_addLevel : GoodIn w_X10_readClause w_X9_addLevel := goodIn_sub (fun _ h => List.mem_cons_of_mem _ (List.mem_append_right _ (List.mem_append_right _ (List.mem_append_right _ (List.mem_append_right _ (List.mem_append_right _ (List.mem_append_right _ (List.mem_append_right _ (List.mem_append_left _ h))))))))) (by decide +kernel)
theorem g_X10_readClause_X10_readItems_53 : GoodIn w_X10_readClause (wsV RX10 53 RX10 yX10_readItems w_X10_readItems) := goodIn_app (goodIn_of _ (by decide +kernel)) gg_X10_readClause_X10_readItems
theorem g_X10_readClause_X8_next_39 : GoodIn w_X10_readClause (wsV RX10 39 RX8 yX8_next w_X8_next) := goodIn_app (goodIn_of _ (by decide +kernel)) gg_X10_readClause_X8_next
theorem g_X10_readClause_X9_addFamily_64 : GoodIn w_X10_readClause (wsV RX10 64 RX9 yX9_addFamily w_X9_addFamily) := goodIn_app (goodIn_of _ (by decide +kernel)) gg_X10_readClause_X9_addFamily
theorem g_X10_readClause_X9_addLevel_57 : GoodIn w_X10_readClause (wsV RX10 57 RX9 yX9_addLevel w_X9_addLevel) := goodIn_app (goodIn_of _ (by decide +kernel)) gg_X10_readClause_X9_addLevel
set_option maxHeartbeats 4000000 in
set_option maxRecDepth 100000 in
theorem c_X10_readClause (l : Launch) (E : py_E) (G : wf_G) (L : List Nat) (f : py_F) (sz : Nat) (h : Nat) (t : Nat) (hG : GT G) (hWF : WF E G L f) (Th : G.1 h = 11) (Tt : G.1 t = 9) : Met l yX10_readClause w_X10_readClause ({ frames := 4, cells := 0, slots := 0, locals := 90 }) (py_Pc E [.ref h, .ref t] L f sz) (py_Qi E L f sz (fun r L1 f1 => (0 ≤ r.toInt ∧ r.toInt ≤ 1) ∧ WF E G L1 f1 ∧ RP E G f f1 ∧ KP G [9, 36, 10, 24, 27, 25, 26] false f f1 ∧ VO G f f1 (dr_v (f h)))) 0 0 (va_A (va_pl L f) sz) := by
  refine Met.ofW (cc := cX10_readClause) (maxL := 4) (ret := (some .boolean)) (by decide) rfl ?_
  intro p e s m args below meth c s₁ B hml hv
  obtain ⟨rfl, rfl, hw⟩ := py_start hv
  have G0 : CallFix p m c cX10_readClause 4 s _ w_X10_readClause RX10 := ⟨B.exec, B.bytes, hml, findClass_of_methodNamed B.named, atoms_spec (ws := w_X10_readClause) B.pre⟩
  have hr := B.returns
  have hlk := B.notSynchronized
  have kcm1 : (-1 : Int32).toInt = -1 := rfl
  have kc0 : (0 : Int32).toInt = 0 := rfl
  have kc1 : (1 : Int32).toInt = 1 := rfl
  have kc4 : (4 : Int32).toInt = 4 := rfl
  have kc8 : (8 : Int32).toInt = 8 := rfl
  have kc10 : (10 : Int32).toInt = 10 := rfl
  have kc107 : (107 : Int32).toInt = 107 := rfl
  have kc108 : (108 : Int32).toInt = 108 := rfl
  have hl := lv_entry ([.ref h, .ref t]) (n := 4) (Nat.le_of_ble_eq_true rfl)
  rw [lg_entry_eq]
  generalize (lg_sl ([.ref h, .ref t]) ++ List.replicate (4 - (lg_sl ([.ref h, .ref t])).length) Slot.unset).toArray = ls at hl ⊢
  have hl : lv_has ls 4 [(0, .ref h), (1, .ref t)] := hl
  have hRP : RP E G f f := RP.refl
  have hKP : KP G [9, 36, 10, 24, 27, 25, 26] false f f := KP.refl
  have hVO : VO G f f (dr_v (f h)) := VO.refl
  refine lv_aload_n G0.1 G0.2.1 dX10_readClause_0 rfl (lv_at hl 1 rfl) ?_
  have t_1 := wt_8 hG Tt
  obtain ⟨v_2, v_3, v_4, hr_7, b_5, b_6⟩ := wg_8 hWF Tt
  have bv_4 := wf_free v_4
  have tq_8 := tp_eq hr_7
  refine py_calli hw (va_runV (As := []) (rest := []) G0 (c_X8_next l E G L f s.heap.size t hG hWF Tt) (cwV 0 G0.2.2.2.2 g_X10_readClause_X8_next_39 rfl rfl rfl (by decide +kernel) ⟨(Nat.le_of_ble_eq_true rfl), (Nat.le_of_ble_eq_true rfl)⟩) (py_preV hw (C := RX8) (T := TX8) (N := 4) rfl hr_7) rfl rfl hl.1 rfl (lv_room (Nat.le_of_ble_eq_true rfl)) dX10_readClause_1 ⟨(Nat.le_of_ble_eq_true rfl), (Nat.le_of_ble_eq_true rfl)⟩) (fun r_13 L_9 f_10 H_11 locs hp_12 hw => ?_)
  obtain ⟨en_14, hWF, hq_15, kp_16⟩ := hp_12
  have hVO := hVO.kp kp_16 (by decide)
  have hRP := hRP.trans hq_15
  have hKP := hKP.trans kp_16 (by decide) (by decide)
  have br_13 := wf_free r_13
  refine lv_istore_n (lv' := [(2, .int r_13), (0, .ref h), (1, .ref t)]) G0.1 G0.2.1 dX10_readClause_4 rfl hl (by decide) rfl (fun ls hl => ?_)
  refine lv_iload_n G0.1 G0.2.1 dX10_readClause_5 rfl (lv_at hl 0 rfl) ?_
  refine lv_bipush (v := 108) G0.1 G0.2.1 dX10_readClause_6 (by decide) ?_
  refine lv_icmp_ne (tgt := 53) G0.1 G0.2.1 dX10_readClause_8 (by decide) (fun c_17 => ?_) (fun c_17 => ?_)
  · skip
    have tc_17 := ti_ne c_17
    refine lv_iload_n G0.1 G0.2.1 dX10_readClause_53 rfl (lv_at hl 0 rfl) ?_
    refine lv_bipush (v := 107) G0.1 G0.2.1 dX10_readClause_54 (by decide) ?_
    refine lv_icmp_ne (tgt := 101) G0.1 G0.2.1 dX10_readClause_56 (by decide) (fun c_18 => ?_) (fun c_18 => ?_)
    · skip
      have tc_18 := ti_ne c_18
      refine lv_iconst (v := 0) G0.1 G0.2.1 dX10_readClause_101 (by decide) ?_
      exact py_iret G0 hr rfl hlk hw ⟨⟨by omega, by omega⟩, hWF, hRP, hKP, hVO⟩ dX10_readClause_102
    · skip
      have tc_18 := ti_eq c_18
      refine lv_aload_n G0.1 G0.2.1 dX10_readClause_59 rfl (lv_at hl 1 rfl) ?_
      have t_19 := wt_10 hG Th
      obtain ⟨r_20, hr_22, ty_21⟩ := wg_10 hWF Th
      have tq_23 := rd_eq hr_22
      refine py_get (C := RX10) (T := TX10) (N := 2) (k := 1) (v := .ref r_20) G0 hw in_X10_readClause_X10 rfl hr_22 (by decide) (by decide +kernel) rfl dX10_readClause_60 ?_
      obtain ⟨t_24, t_25, t_26, t_27, t_28, t_29, t_30, t_31⟩ := wt_9 hG ty_21
      obtain ⟨v_32, v_33, hr_36, b_34, b_35⟩ := wg_9 hWF ty_21
      have tq_37 := va_eq hr_36
      refine py_get (C := RX9) (T := TX9) (N := 10) (k := 9) (v := .int v_33) G0 hw in_X10_readClause_X9 rfl hr_36 (by decide) (by decide +kernel) rfl dX10_readClause_63 ?_
      refine lv_bipush (v := 10) G0.1 G0.2.1 dX10_readClause_66 (by decide) ?_
      refine lv_icmp_ge (tgt := 101) G0.1 G0.2.1 dX10_readClause_68 (by decide) (fun c_38 => ?_) (fun c_38 => ?_)
      · skip
        have tc_38 := ti_le c_38
        refine lv_iconst (v := 0) G0.1 G0.2.1 dX10_readClause_101 (by decide) ?_
        exact py_iret G0 hr rfl hlk hw ⟨⟨by omega, by omega⟩, hWF, hRP, hKP, hVO⟩ dX10_readClause_102
      · skip
        have tc_38 := ti_nle c_38
        refine lv_aload_n G0.1 G0.2.1 dX10_readClause_71 rfl (lv_at hl 2 rfl) ?_
        refine lv_dup G0.1 G0.2.1 dX10_readClause_72 rfl ?_
        obtain ⟨v_39, v_40, v_41, hr_44, b_42, b_43⟩ := wg_8 hWF Tt
        have bv_41 := wf_free v_41
        have tq_45 := tp_eq hr_44
        refine py_get (C := RX8) (T := TX8) (N := 4) (k := 2) (v := .int v_40) G0 hw in_X10_readClause_X8 rfl hr_44 (by decide) (by decide +kernel) rfl dX10_readClause_73 ?_
        refine lv_iconst (v := 1) G0.1 G0.2.1 dX10_readClause_76 (by decide) ?_
        refine lv_iadd G0.1 G0.2.1 dX10_readClause_77 ?_
        refine lv_topi (fun x_46 ex_46 => ?_)
        first | have tx_46 := ti_add ex_46 (by omega) (by omega) | skip
        refine py_put (C := RX8) (T := TX8) (N := 4) (k := 2) (v := .int x_46) (fs' := [.ref (G.2 t 0), .int v_39, .int x_46, .int v_41]) (ty0 := tyX8) G0 hw tyX8_ok nmX8 in_X10_readClause_X8 rfl hr_44 (by decide) (by decide +kernel) rfl rfl rfl rfl (Nat.le_of_ble_eq_true rfl) rfl dX10_readClause_78 (fun f_47 H_48 locs h_49 x_50 hw => ?_)
        have hVO := hVO.upd hWF x_50 (Or.inr (by rw [Tt]; omega))
        have hKP := hKP.upd hWF x_50 Tt (Or.inl (by decide))
        have hRP := hRP.trans (rp_upd hG hWF x_50 hr_44.2 h_49.2 (rp_code hG Tt (by decide)) rfl)
        have hWF := wf_upd hWF h_49 x_50 (by rw [Tt]; exact ⟨v_39, x_46, v_41, rfl, ⟨by omega, by omega⟩, ⟨by omega, by omega⟩⟩)
        have tq_51 := tp_eq h_49
        have hr_22 := hr_22.ext x_50 (py_ne_kind hr_22 hr_44 (by decide))
        have tq_52 := rd_eq hr_22
        have hr_36 := hr_36.ext x_50 (py_ne_kind hr_36 hr_44 (by decide))
        have tq_53 := va_eq hr_36
        refine lv_aload_n G0.1 G0.2.1 dX10_readClause_81 rfl (lv_at hl 1 rfl) ?_
        refine lv_aload_n G0.1 G0.2.1 dX10_readClause_82 rfl (lv_at hl 2 rfl) ?_
        refine lv_iconst (v := 4) G0.1 G0.2.1 dX10_readClause_83 (by decide) ?_
        refine py_calli hw (va_runV (As := [.ref t, .int 4]) (rest := []) G0 (c_X10_readItems l E G L_9 f_47 H_48.size h t 4 hG hWF Th Tt (show (4 : Int32).toInt = 0 ∨ (4 : Int32).toInt = 4 by omega)) (cwV 2 G0.2.2.2.2 g_X10_readClause_X10_readItems_53 rfl rfl rfl (by decide +kernel) ⟨(Nat.le_of_ble_eq_true rfl), (Nat.le_of_ble_eq_true rfl)⟩) (py_preV hw (C := RX10) (T := TX10) (N := 2) rfl hr_22) rfl rfl hl.1 rfl (lv_room (Nat.le_of_ble_eq_true rfl)) dX10_readClause_84 ⟨(Nat.le_of_ble_eq_true rfl), (Nat.le_of_ble_eq_true rfl)⟩) (fun r_58 L_54 f_55 H_56 locs hp_57 hw => ?_)
        obtain ⟨b_60, en_59, hWF, hq_61, kp_62⟩ := hp_57
        have hVO := hVO.kp kp_62 (by decide)
        have hRP := hRP.trans hq_61
        have hKP := hKP.trans kp_62 (by decide) (by decide)
        have hr_22 := kp_at kp_62 hWF Th (by decide) (by decide) (by decide) hr_22
        have tq_63 := rd_eq hr_22
        have hr_36 := kp_at kp_62 hWF ty_21 (by decide) (by decide) (by decide) hr_36
        have tq_64 := va_eq hr_36
        refine lv_istore_n (lv' := [(3, .int r_58), (2, .int r_13), (0, .ref h), (1, .ref t)]) G0.1 G0.2.1 dX10_readClause_87 rfl hl (by decide) rfl (fun ls hl => ?_)
        refine lv_aload_n G0.1 G0.2.1 dX10_readClause_88 rfl (lv_at hl 2 rfl) ?_
        refine py_get (C := RX10) (T := TX10) (N := 2) (k := 1) (v := .ref r_20) G0 hw in_X10_readClause_X10 rfl hr_22 (by decide) (by decide +kernel) rfl dX10_readClause_89 ?_
        refine lv_aload_n G0.1 G0.2.1 dX10_readClause_92 rfl (lv_at hl 2 rfl) ?_
        refine py_get (C := RX10) (T := TX10) (N := 2) (k := 0) (v := .ref (G.2 h 0)) G0 hw in_X10_readClause_X10 rfl hr_22 (by decide) (by decide +kernel) rfl dX10_readClause_93 ?_
        refine py_callv hw (va_runV (As := [.ref (G.2 h 0)]) (rest := []) G0 (c_X9_addFamily l E G L_54 f_55 H_56.size r_20 (G.2 h 0) hG hWF ty_21 t_19 (show va_f f_55 r_20 < 10 ∧ 0 ≤ it0 f_55 (G.2 h 0) ∧ it0 f_55 (G.2 h 0) ≤ 20 ∧ 0 ≤ it1 f_55 (G.2 h 0) ∧ it1 f_55 (G.2 h 0) ≤ 7 by omega)) (cwV 1 G0.2.2.2.2 g_X10_readClause_X9_addFamily_64 rfl rfl rfl (by decide +kernel) ⟨(Nat.le_of_ble_eq_true rfl), (Nat.le_of_ble_eq_true rfl)⟩) (py_preV hw (C := RX9) (T := TX9) (N := 10) rfl hr_36) rfl rfl hl.1 rfl (lv_room (Nat.le_of_ble_eq_true rfl)) dX10_readClause_96 ⟨(Nat.le_of_ble_eq_true rfl), (Nat.le_of_ble_eq_true rfl)⟩) (fun L_65 f_66 H_67 locs hp_68 hw => ?_)
        obtain ⟨hWF, hq_70, kp_71, vo_72⟩ := hp_68
        have hVO := vo_tr9 hVO hKP Th (by decide) hr_22 vo_72
        have hRP := hRP.trans hq_70
        have hKP := hKP.trans kp_71 (by decide) (by decide)
        have hr_22 := kp_at kp_71 hWF Th (by decide) (by decide) (by decide) hr_22
        have tq_73 := rd_eq hr_22
        refine lv_iload_n G0.1 G0.2.1 dX10_readClause_99 rfl (lv_at hl 0 rfl) ?_
        exact py_iret G0 hr (ti_bool (by omega) (by omega)) hlk hw ⟨⟨by omega, by omega⟩, hWF, hRP, hKP, hVO⟩ dX10_readClause_100
  · skip
    have tc_17 := ti_eq c_17
    refine lv_aload_n G0.1 G0.2.1 dX10_readClause_11 rfl (lv_at hl 1 rfl) ?_
    have t_74 := wt_10 hG Th
    obtain ⟨r_75, hr_77, ty_76⟩ := wg_10 hWF Th
    have tq_78 := rd_eq hr_77
    refine py_get (C := RX10) (T := TX10) (N := 2) (k := 1) (v := .ref r_75) G0 hw in_X10_readClause_X10 rfl hr_77 (by decide) (by decide +kernel) rfl dX10_readClause_12 ?_
    obtain ⟨t_79, t_80, t_81, t_82, t_83, t_84, t_85, t_86⟩ := wt_9 hG ty_76
    obtain ⟨v_87, v_88, hr_91, b_89, b_90⟩ := wg_9 hWF ty_76
    have tq_92 := va_eq hr_91
    refine py_get (C := RX9) (T := TX9) (N := 10) (k := 8) (v := .int v_87) G0 hw in_X10_readClause_X9 rfl hr_91 (by decide) (by decide +kernel) rfl dX10_readClause_15 ?_
    refine lv_bipush (v := 8) G0.1 G0.2.1 dX10_readClause_18 (by decide) ?_
    refine lv_icmp_ge (tgt := 53) G0.1 G0.2.1 dX10_readClause_20 (by decide) (fun c_93 => ?_) (fun c_93 => ?_)
    · skip
      have tc_93 := ti_le c_93
      refine lv_iload_n G0.1 G0.2.1 dX10_readClause_53 rfl (lv_at hl 0 rfl) ?_
      refine lv_bipush (v := 107) G0.1 G0.2.1 dX10_readClause_54 (by decide) ?_
      refine lv_icmp_ne (tgt := 101) G0.1 G0.2.1 dX10_readClause_56 (by decide) (fun c_94 => ?_) (fun c_94 => ?_)
      · skip
        have tc_94 := ti_ne c_94
        refine lv_iconst (v := 0) G0.1 G0.2.1 dX10_readClause_101 (by decide) ?_
        exact py_iret G0 hr rfl hlk hw ⟨⟨by omega, by omega⟩, hWF, hRP, hKP, hVO⟩ dX10_readClause_102
      · skip
        have tc_94 := ti_eq c_94
        refine lv_aload_n G0.1 G0.2.1 dX10_readClause_59 rfl (lv_at hl 1 rfl) ?_
        refine py_get (C := RX10) (T := TX10) (N := 2) (k := 1) (v := .ref r_75) G0 hw in_X10_readClause_X10 rfl hr_77 (by decide) (by decide +kernel) rfl dX10_readClause_60 ?_
        refine py_get (C := RX9) (T := TX9) (N := 10) (k := 9) (v := .int v_88) G0 hw in_X10_readClause_X9 rfl hr_91 (by decide) (by decide +kernel) rfl dX10_readClause_63 ?_
        refine lv_bipush (v := 10) G0.1 G0.2.1 dX10_readClause_66 (by decide) ?_
        refine lv_icmp_ge (tgt := 101) G0.1 G0.2.1 dX10_readClause_68 (by decide) (fun c_95 => ?_) (fun c_95 => ?_)
        · skip
          have tc_95 := ti_le c_95
          refine lv_iconst (v := 0) G0.1 G0.2.1 dX10_readClause_101 (by decide) ?_
          exact py_iret G0 hr rfl hlk hw ⟨⟨by omega, by omega⟩, hWF, hRP, hKP, hVO⟩ dX10_readClause_102
        · skip
          have tc_95 := ti_nle c_95
          refine lv_aload_n G0.1 G0.2.1 dX10_readClause_71 rfl (lv_at hl 2 rfl) ?_
          refine lv_dup G0.1 G0.2.1 dX10_readClause_72 rfl ?_
          obtain ⟨v_96, v_97, v_98, hr_101, b_99, b_100⟩ := wg_8 hWF Tt
          have bv_98 := wf_free v_98
          have tq_102 := tp_eq hr_101
          refine py_get (C := RX8) (T := TX8) (N := 4) (k := 2) (v := .int v_97) G0 hw in_X10_readClause_X8 rfl hr_101 (by decide) (by decide +kernel) rfl dX10_readClause_73 ?_
          refine lv_iconst (v := 1) G0.1 G0.2.1 dX10_readClause_76 (by decide) ?_
          refine lv_iadd G0.1 G0.2.1 dX10_readClause_77 ?_
          refine lv_topi (fun x_103 ex_103 => ?_)
          first | have tx_103 := ti_add ex_103 (by omega) (by omega) | skip
          refine py_put (C := RX8) (T := TX8) (N := 4) (k := 2) (v := .int x_103) (fs' := [.ref (G.2 t 0), .int v_96, .int x_103, .int v_98]) (ty0 := tyX8) G0 hw tyX8_ok nmX8 in_X10_readClause_X8 rfl hr_101 (by decide) (by decide +kernel) rfl rfl rfl rfl (Nat.le_of_ble_eq_true rfl) rfl dX10_readClause_78 (fun f_104 H_105 locs h_106 x_107 hw => ?_)
          have hVO := hVO.upd hWF x_107 (Or.inr (by rw [Tt]; omega))
          have hKP := hKP.upd hWF x_107 Tt (Or.inl (by decide))
          have hRP := hRP.trans (rp_upd hG hWF x_107 hr_101.2 h_106.2 (rp_code hG Tt (by decide)) rfl)
          have hWF := wf_upd hWF h_106 x_107 (by rw [Tt]; exact ⟨v_96, x_103, v_98, rfl, ⟨by omega, by omega⟩, ⟨by omega, by omega⟩⟩)
          have tq_108 := tp_eq h_106
          have hr_77 := hr_77.ext x_107 (py_ne_kind hr_77 hr_101 (by decide))
          have tq_109 := rd_eq hr_77
          have hr_91 := hr_91.ext x_107 (py_ne_kind hr_91 hr_101 (by decide))
          have tq_110 := va_eq hr_91
          refine lv_aload_n G0.1 G0.2.1 dX10_readClause_81 rfl (lv_at hl 1 rfl) ?_
          refine lv_aload_n G0.1 G0.2.1 dX10_readClause_82 rfl (lv_at hl 2 rfl) ?_
          refine lv_iconst (v := 4) G0.1 G0.2.1 dX10_readClause_83 (by decide) ?_
          refine py_calli hw (va_runV (As := [.ref t, .int 4]) (rest := []) G0 (c_X10_readItems l E G L_9 f_104 H_105.size h t 4 hG hWF Th Tt (show (4 : Int32).toInt = 0 ∨ (4 : Int32).toInt = 4 by omega)) (cwV 2 G0.2.2.2.2 g_X10_readClause_X10_readItems_53 rfl rfl rfl (by decide +kernel) ⟨(Nat.le_of_ble_eq_true rfl), (Nat.le_of_ble_eq_true rfl)⟩) (py_preV hw (C := RX10) (T := TX10) (N := 2) rfl hr_77) rfl rfl hl.1 rfl (lv_room (Nat.le_of_ble_eq_true rfl)) dX10_readClause_84 ⟨(Nat.le_of_ble_eq_true rfl), (Nat.le_of_ble_eq_true rfl)⟩) (fun r_115 L_111 f_112 H_113 locs hp_114 hw => ?_)
          obtain ⟨b_117, en_116, hWF, hq_118, kp_119⟩ := hp_114
          have hVO := hVO.kp kp_119 (by decide)
          have hRP := hRP.trans hq_118
          have hKP := hKP.trans kp_119 (by decide) (by decide)
          have hr_77 := kp_at kp_119 hWF Th (by decide) (by decide) (by decide) hr_77
          have tq_120 := rd_eq hr_77
          have hr_91 := kp_at kp_119 hWF ty_76 (by decide) (by decide) (by decide) hr_91
          have tq_121 := va_eq hr_91
          refine lv_istore_n (lv' := [(3, .int r_115), (2, .int r_13), (0, .ref h), (1, .ref t)]) G0.1 G0.2.1 dX10_readClause_87 rfl hl (by decide) rfl (fun ls hl => ?_)
          refine lv_aload_n G0.1 G0.2.1 dX10_readClause_88 rfl (lv_at hl 2 rfl) ?_
          refine py_get (C := RX10) (T := TX10) (N := 2) (k := 1) (v := .ref r_75) G0 hw in_X10_readClause_X10 rfl hr_77 (by decide) (by decide +kernel) rfl dX10_readClause_89 ?_
          refine lv_aload_n G0.1 G0.2.1 dX10_readClause_92 rfl (lv_at hl 2 rfl) ?_
          refine py_get (C := RX10) (T := TX10) (N := 2) (k := 0) (v := .ref (G.2 h 0)) G0 hw in_X10_readClause_X10 rfl hr_77 (by decide) (by decide +kernel) rfl dX10_readClause_93 ?_
          refine py_callv hw (va_runV (As := [.ref (G.2 h 0)]) (rest := []) G0 (c_X9_addFamily l E G L_111 f_112 H_113.size r_75 (G.2 h 0) hG hWF ty_76 t_74 (show va_f f_112 r_75 < 10 ∧ 0 ≤ it0 f_112 (G.2 h 0) ∧ it0 f_112 (G.2 h 0) ≤ 20 ∧ 0 ≤ it1 f_112 (G.2 h 0) ∧ it1 f_112 (G.2 h 0) ≤ 7 by omega)) (cwV 1 G0.2.2.2.2 g_X10_readClause_X9_addFamily_64 rfl rfl rfl (by decide +kernel) ⟨(Nat.le_of_ble_eq_true rfl), (Nat.le_of_ble_eq_true rfl)⟩) (py_preV hw (C := RX9) (T := TX9) (N := 10) rfl hr_91) rfl rfl hl.1 rfl (lv_room (Nat.le_of_ble_eq_true rfl)) dX10_readClause_96 ⟨(Nat.le_of_ble_eq_true rfl), (Nat.le_of_ble_eq_true rfl)⟩) (fun L_122 f_123 H_124 locs hp_125 hw => ?_)
          obtain ⟨hWF, hq_127, kp_128, vo_129⟩ := hp_125
          have hVO := vo_tr9 hVO hKP Th (by decide) hr_77 vo_129
          have hRP := hRP.trans hq_127
          have hKP := hKP.trans kp_128 (by decide) (by decide)
          have hr_77 := kp_at kp_128 hWF Th (by decide) (by decide) (by decide) hr_77
          have tq_130 := rd_eq hr_77
          refine lv_iload_n G0.1 G0.2.1 dX10_readClause_99 rfl (lv_at hl 0 rfl) ?_
          exact py_iret G0 hr (ti_bool (by omega) (by omega)) hlk hw ⟨⟨by omega, by omega⟩, hWF, hRP, hKP, hVO⟩ dX10_readClause_100
    · skip
      have tc_93 := ti_nle c_93
      refine lv_aload_n G0.1 G0.2.1 dX10_readClause_23 rfl (lv_at hl 2 rfl) ?_
      refine lv_dup G0.1 G0.2.1 dX10_readClause_24 rfl ?_
      obtain ⟨v_131, v_132, v_133, hr_136, b_134, b_135⟩ := wg_8 hWF Tt
      have bv_133 := wf_free v_133
      have tq_137 := tp_eq hr_136
      refine py_get (C := RX8) (T := TX8) (N := 4) (k := 2) (v := .int v_132) G0 hw in_X10_readClause_X8 rfl hr_136 (by decide) (by decide +kernel) rfl dX10_readClause_25 ?_
      refine lv_iconst (v := 1) G0.1 G0.2.1 dX10_readClause_28 (by decide) ?_
      refine lv_iadd G0.1 G0.2.1 dX10_readClause_29 ?_
      refine lv_topi (fun x_138 ex_138 => ?_)
      first | have tx_138 := ti_add ex_138 (by omega) (by omega) | skip
      refine py_put (C := RX8) (T := TX8) (N := 4) (k := 2) (v := .int x_138) (fs' := [.ref (G.2 t 0), .int v_131, .int x_138, .int v_133]) (ty0 := tyX8) G0 hw tyX8_ok nmX8 in_X10_readClause_X8 rfl hr_136 (by decide) (by decide +kernel) rfl rfl rfl rfl (Nat.le_of_ble_eq_true rfl) rfl dX10_readClause_30 (fun f_139 H_140 locs h_141 x_142 hw => ?_)
      have hVO := hVO.upd hWF x_142 (Or.inr (by rw [Tt]; omega))
      have hKP := hKP.upd hWF x_142 Tt (Or.inl (by decide))
      have hRP := hRP.trans (rp_upd hG hWF x_142 hr_136.2 h_141.2 (rp_code hG Tt (by decide)) rfl)
      have hWF := wf_upd hWF h_141 x_142 (by rw [Tt]; exact ⟨v_131, x_138, v_133, rfl, ⟨by omega, by omega⟩, ⟨by omega, by omega⟩⟩)
      have tq_143 := tp_eq h_141
      have hr_77 := hr_77.ext x_142 (py_ne_kind hr_77 hr_136 (by decide))
      have tq_144 := rd_eq hr_77
      have hr_91 := hr_91.ext x_142 (py_ne_kind hr_91 hr_136 (by decide))
      have tq_145 := va_eq hr_91
      refine lv_aload_n G0.1 G0.2.1 dX10_readClause_33 rfl (lv_at hl 1 rfl) ?_
      refine lv_aload_n G0.1 G0.2.1 dX10_readClause_34 rfl (lv_at hl 2 rfl) ?_
      refine lv_iconst (v := 0) G0.1 G0.2.1 dX10_readClause_35 (by decide) ?_
      refine py_calli hw (va_runV (As := [.ref t, .int 0]) (rest := []) G0 (c_X10_readItems l E G L_9 f_139 H_140.size h t 0 hG hWF Th Tt (show (0 : Int32).toInt = 0 ∨ (0 : Int32).toInt = 4 by omega)) (cwV 2 G0.2.2.2.2 g_X10_readClause_X10_readItems_53 rfl rfl rfl (by decide +kernel) ⟨(Nat.le_of_ble_eq_true rfl), (Nat.le_of_ble_eq_true rfl)⟩) (py_preV hw (C := RX10) (T := TX10) (N := 2) rfl hr_77) rfl rfl hl.1 rfl (lv_room (Nat.le_of_ble_eq_true rfl)) dX10_readClause_36 ⟨(Nat.le_of_ble_eq_true rfl), (Nat.le_of_ble_eq_true rfl)⟩) (fun r_150 L_146 f_147 H_148 locs hp_149 hw => ?_)
      obtain ⟨b_152, en_151, hWF, hq_153, kp_154⟩ := hp_149
      have hVO := hVO.kp kp_154 (by decide)
      have hRP := hRP.trans hq_153
      have hKP := hKP.trans kp_154 (by decide) (by decide)
      have hr_77 := kp_at kp_154 hWF Th (by decide) (by decide) (by decide) hr_77
      have tq_155 := rd_eq hr_77
      have hr_91 := kp_at kp_154 hWF ty_76 (by decide) (by decide) (by decide) hr_91
      have tq_156 := va_eq hr_91
      refine lv_istore_n (lv' := [(3, .int r_150), (2, .int r_13), (0, .ref h), (1, .ref t)]) G0.1 G0.2.1 dX10_readClause_39 rfl hl (by decide) rfl (fun ls hl => ?_)
      refine lv_aload_n G0.1 G0.2.1 dX10_readClause_40 rfl (lv_at hl 2 rfl) ?_
      refine py_get (C := RX10) (T := TX10) (N := 2) (k := 1) (v := .ref r_75) G0 hw in_X10_readClause_X10 rfl hr_77 (by decide) (by decide +kernel) rfl dX10_readClause_41 ?_
      refine lv_aload_n G0.1 G0.2.1 dX10_readClause_44 rfl (lv_at hl 2 rfl) ?_
      refine py_get (C := RX10) (T := TX10) (N := 2) (k := 0) (v := .ref (G.2 h 0)) G0 hw in_X10_readClause_X10 rfl hr_77 (by decide) (by decide +kernel) rfl dX10_readClause_45 ?_
      refine py_callv hw (va_runV (As := [.ref (G.2 h 0)]) (rest := []) G0 (c_X9_addLevel l E G L_146 f_147 H_148.size r_75 (G.2 h 0) hG hWF ty_76 t_74 (show va_l f_147 r_75 < 8 by omega)) (cwV 1 G0.2.2.2.2 g_X10_readClause_X9_addLevel_57 rfl rfl rfl (by decide +kernel) ⟨(Nat.le_of_ble_eq_true rfl), (Nat.le_of_ble_eq_true rfl)⟩) (py_preV hw (C := RX9) (T := TX9) (N := 10) rfl hr_91) rfl rfl hl.1 rfl (lv_room (Nat.le_of_ble_eq_true rfl)) dX10_readClause_48 ⟨(Nat.le_of_ble_eq_true rfl), (Nat.le_of_ble_eq_true rfl)⟩) (fun L_157 f_158 H_159 locs hp_160 hw => ?_)
      obtain ⟨hWF, hq_162, kp_163, vo_164⟩ := hp_160
      have hVO := vo_tr9 hVO hKP Th (by decide) hr_77 vo_164
      have hRP := hRP.trans hq_162
      have hKP := hKP.trans kp_163 (by decide) (by decide)
      have hr_77 := kp_at kp_163 hWF Th (by decide) (by decide) (by decide) hr_77
      have tq_165 := rd_eq hr_77
      refine lv_iload_n G0.1 G0.2.1 dX10_readClause_51 rfl (lv_at hl 0 rfl) ?_
      exact py_iret G0 hr (ti_bool (by omega) (by omega)) hlk hw ⟨⟨by omega, by omega⟩, hWF, hRP, hKP, hVO⟩ dX10_readClause_52

def w_X10_faultOf : List Cond := .code yX10_faultOf cX10_faultOf 4 (some .int) :: ([Cond.fieldLink RX10 22 "HeadYear$Tape" "at" "I", Cond.fieldLink RX10 18 "HeadYear$ValleyReader" "draft" "LHeadYear$Valley;", Cond.methodLink RX10 28 yX9_clear, Cond.instanceMethod yX9_clear, Cond.selects RX9 yX9_clear yX9_clear, Cond.initialized RX9, Cond.methodLink RX10 31 yX10_readClause, Cond.instanceMethod yX10_readClause, Cond.selects RX10 yX10_readClause yX10_readClause, Cond.initialized RX10, Cond.methodLink RX10 39 yX8_next, Cond.instanceMethod yX8_next, Cond.selects RX8 yX8_next yX8_next, Cond.initialized RX8, Cond.methodLink RX10 43 yX9_isWhole, Cond.instanceMethod yX9_isWhole, Cond.selects RX9 yX9_isWhole yX9_isWhole, Cond.fieldLink RX10 47 "HeadYear$Tape" "length" "I", Cond.methodLink RX10 35 yX8_take, Cond.instanceMethod yX8_take, Cond.selects RX8 yX8_take yX8_take] ++ (u_ws RX8 TX8 4 ++ (u_ws RX10 TX10 2 ++ (w_X9_clear ++ (w_X10_readClause ++ (w_X8_next ++ (w_X9_isWhole ++ (w_X8_take ++ ([])))))))))
theorem in_X10_faultOf_X8 : ∀ w ∈ u_ws RX8 TX8 4, w ∈ w_X10_faultOf := fun _ h => List.mem_cons_of_mem _ (List.mem_append_right _ (List.mem_append_left _ h))
theorem in_X10_faultOf_X10 : ∀ w ∈ u_ws RX10 TX10 2, w ∈ w_X10_faultOf := fun _ h => List.mem_cons_of_mem _ (List.mem_append_right _ (List.mem_append_right _ (List.mem_append_left _ h)))
theorem gg_X10_faultOf_X9_clear : GoodIn w_X10_faultOf w_X9_clear := goodIn_sub (fun _ h => List.mem_cons_of_mem _ (List.mem_append_right _ (List.mem_append_right _ (List.mem_append_right _ (List.mem_append_left _ h))))) (by decide +kernel)
theorem gg_X10_faultOf_X10_readClause : GoodIn w_X10_faultOf w_X10_readClause := goodIn_sub (fun _ h => List.mem_cons_of_mem _ (List.mem_append_right _ (List.mem_append_right _ (List.mem_append_right _ (List.mem_append_right _ (List.mem_append_left _ h)))))) (by decide +kernel)
theorem gg_X10_faultOf_X8_next : GoodIn w_X10_faultOf w_X8_next := goodIn_sub (fun _ h => List.mem_cons_of_mem _ (List.mem_append_right _ (List.mem_append_right _ (List.mem_append_right _ (List.mem_append_right _ (List.mem_append_right _ (List.mem_append_left _ h))))))) (by decide +kernel)
theorem gg_X10_faultOf_X9_isWhole : GoodIn w_X10_faultOf w_X9_isWhole := goodIn_sub (fun _ h => List.mem_cons_of_mem _ (List.mem_append_right _ (List.mem_append_right _ (List.mem_append_right _ (List.mem_append_right _ (List.mem_append_right _ (List.mem_append_right _ (List.mem_append_left _ h)))))))) (by decide +kernel)
theorem gg_X10_faultOf_X8_take : GoodIn w_X10_faultOf w_X8_take := goodIn_sub (fun _ h => List.mem_cons_of_mem _ (List.mem_append_right _ (List.mem_append_right _ (List.mem_append_right _ (List.mem_append_right _ (List.mem_append_right _ (List.mem_append_right _ (List.mem_append_right _ (List.mem_append_left _ h))))))))) (by decide +kernel)
theorem g_X10_faultOf_X10_readClause_31 : GoodIn w_X10_faultOf (wsV RX10 31 RX10 yX10_readClause w_X10_readClause) := goodIn_app (goodIn_of _ (by decide +kernel)) gg_X10_faultOf_X10_readClause
theorem g_X10_faultOf_X8_next_39 : GoodIn w_X10_faultOf (wsV RX10 39 RX8 yX8_next w_X8_next) := goodIn_app (goodIn_of _ (by decide +kernel)) gg_X10_faultOf_X8_next
theorem g_X10_faultOf_X8_take_35 : GoodIn w_X10_faultOf (wsV RX10 35 RX8 yX8_take w_X8_take) := goodIn_app (goodIn_of _ (by decide +kernel)) gg_X10_faultOf_X8_take
theorem g_X10_faultOf_X9_clear_28 : GoodIn w_X10_faultOf (wsV RX10 28 RX9 yX9_clear w_X9_clear) := goodIn_app (goodIn_of _ (by decide +kernel)) gg_X10_faultOf_X9_clear
theorem g_X10_faultOf_X9_isWhole_43 : GoodIn w_X10_faultOf (wsV RX10 43 RX9 yX9_isWhole w_X9_isWhole) := goodIn_app (goodIn_of _ (by decide +kernel)) gg_X10_faultOf_X9_isWhole
set_option maxHeartbeats 4000000 in
set_option maxRecDepth 100000 in
theorem c_X10_faultOf (l : Launch) (E : py_E) (G : wf_G) (L : List Nat) (f : py_F) (sz : Nat) (h : Nat) (t : Nat) (hG : GT G) (hWF : WF E G L f) (Th : G.1 h = 11) (Tt : G.1 t = 9) : Met l yX10_faultOf w_X10_faultOf ({ frames := 5, cells := 0, slots := 0, locals := 113 }) (py_Pc E [.ref h, .ref t] L f sz) (py_Qi E L f sz (fun r L1 f1 => ((-1) ≤ r.toInt ∧ r.toInt ≤ 160) ∧ (r.toInt = -1 → 2 ≤ rd_l f1 h) ∧ WF E G L1 f1 ∧ RP E G f f1 ∧ KP G [9, 36, 10, 24, 27, 25, 26] false f f1 ∧ VO G f f1 (dr_v (f h)))) 0 0 (va_A (va_pl L f) sz) := by
  refine Met.ofW (cc := cX10_faultOf) (maxL := 4) (ret := (some .int)) (by decide) rfl ?_
  intro p e s m args below meth c s₁ B hml hv
  obtain ⟨rfl, rfl, hw⟩ := py_start hv
  have G0 : CallFix p m c cX10_faultOf 4 s _ w_X10_faultOf RX10 := ⟨B.exec, B.bytes, hml, findClass_of_methodNamed B.named, atoms_spec (ws := w_X10_faultOf) B.pre⟩
  have hr := B.returns
  have hlk := B.notSynchronized
  have kcm1 : (-1 : Int32).toInt = -1 := rfl
  have kc0 : (0 : Int32).toInt = 0 := rfl
  have kc1 : (1 : Int32).toInt = 1 := rfl
  have kc59 : (59 : Int32).toInt = 59 := rfl
  have kc160 : (160 : Int32).toInt = 160 := rfl
  have hl := lv_entry ([.ref h, .ref t]) (n := 4) (Nat.le_of_ble_eq_true rfl)
  rw [lg_entry_eq]
  generalize (lg_sl ([.ref h, .ref t]) ++ List.replicate (4 - (lg_sl ([.ref h, .ref t])).length) Slot.unset).toArray = ls at hl ⊢
  have hl : lv_has ls 4 [(0, .ref h), (1, .ref t)] := hl
  have hRP : RP E G f f := RP.refl
  have hKP : KP G [9, 36, 10, 24, 27, 25, 26] false f f := KP.refl
  have hVO : VO G f f (dr_v (f h)) := VO.refl
  refine lv_aload_n G0.1 G0.2.1 dX10_faultOf_0 rfl (lv_at hl 1 rfl) ?_
  refine lv_iconst (v := 0) G0.1 G0.2.1 dX10_faultOf_1 (by decide) ?_
  have t_1 := wt_8 hG Tt
  obtain ⟨v_2, v_3, v_4, hr_7, b_5, b_6⟩ := wg_8 hWF Tt
  have bv_4 := wf_free v_4
  have tq_8 := tp_eq hr_7
  refine py_put (C := RX8) (T := TX8) (N := 4) (k := 2) (v := .int 0) (fs' := [.ref (G.2 t 0), .int v_2, .int 0, .int v_4]) (ty0 := tyX8) G0 hw tyX8_ok nmX8 in_X10_faultOf_X8 rfl hr_7 (by decide) (by decide +kernel) rfl rfl rfl rfl (Nat.le_of_ble_eq_true rfl) rfl dX10_faultOf_2 (fun f_9 H_10 locs h_11 x_12 hw => ?_)
  have hVO := hVO.upd hWF x_12 (Or.inr (by rw [Tt]; omega))
  have hKP := hKP.upd hWF x_12 Tt (Or.inl (by decide))
  have hRP := hRP.trans (rp_upd hG hWF x_12 hr_7.2 h_11.2 (rp_code hG Tt (by decide)) rfl)
  have hWF := wf_upd hWF h_11 x_12 (by rw [Tt]; exact ⟨v_2, 0, v_4, rfl, ⟨by omega, by omega⟩, ⟨by omega, by omega⟩⟩)
  have tq_13 := tp_eq h_11
  refine lv_aload_n G0.1 G0.2.1 dX10_faultOf_5 rfl (lv_at hl 0 rfl) ?_
  have t_14 := wt_10 hG Th
  obtain ⟨r_15, hr_17, ty_16⟩ := wg_10 hWF Th
  have tq_18 := rd_eq hr_17
  refine py_get (C := RX10) (T := TX10) (N := 2) (k := 1) (v := .ref r_15) G0 hw in_X10_faultOf_X10 rfl hr_17 (by decide) (by decide +kernel) rfl dX10_faultOf_6 ?_
  obtain ⟨t_19, t_20, t_21, t_22, t_23, t_24, t_25, t_26⟩ := wt_9 hG ty_16
  obtain ⟨v_27, v_28, hr_31, b_29, b_30⟩ := wg_9 hWF ty_16
  have tq_32 := va_eq hr_31
  refine py_callv hw (va_runV (As := []) (rest := []) G0 (c_X9_clear l E G L f_9 H_10.size r_15 hG hWF ty_16) (cwV 0 G0.2.2.2.2 g_X10_faultOf_X9_clear_28 rfl rfl rfl (by decide +kernel) ⟨(Nat.le_of_ble_eq_true rfl), (Nat.le_of_ble_eq_true rfl)⟩) (py_preV hw (C := RX9) (T := TX9) (N := 10) rfl hr_31) rfl rfl hl.1 rfl (lv_room (Nat.le_of_ble_eq_true rfl)) dX10_faultOf_9 ⟨(Nat.le_of_ble_eq_true rfl), (Nat.le_of_ble_eq_true rfl)⟩) (fun L_33 f_34 H_35 locs hp_36 hw => ?_)
  obtain ⟨hWF, hq_38, kp_39, vo_40⟩ := hp_36
  have hVO := vo_tr9 hVO hKP Th (by decide) hr_17 vo_40
  have hRP := hRP.trans hq_38
  have hKP := hKP.trans kp_39 (by decide) (by decide)
  have h_11 := kp_at kp_39 hWF Tt (by decide) (by decide) (by decide) h_11
  have tq_41 := tp_eq h_11
  have hr_17 := kp_at kp_39 hWF Th (by decide) (by decide) (by decide) hr_17
  have tq_42 := rd_eq hr_17
  refine lv_aload_n G0.1 G0.2.1 dX10_faultOf_12 rfl (lv_at hl 0 rfl) ?_
  refine lv_aload_n G0.1 G0.2.1 dX10_faultOf_13 rfl (lv_at hl 1 rfl) ?_
  refine py_calli hw (va_runV (As := [.ref t]) (rest := []) G0 (c_X10_readClause l E G L_33 f_34 H_35.size h t hG hWF Th Tt) (cwV 1 G0.2.2.2.2 g_X10_faultOf_X10_readClause_31 rfl rfl rfl (by decide +kernel) ⟨(Nat.le_of_ble_eq_true rfl), (Nat.le_of_ble_eq_true rfl)⟩) (py_preV hw (C := RX10) (T := TX10) (N := 2) rfl hr_17) rfl rfl hl.1 rfl (lv_room (Nat.le_of_ble_eq_true rfl)) dX10_faultOf_14 ⟨(Nat.le_of_ble_eq_true rfl), (Nat.le_of_ble_eq_true rfl)⟩) (fun r_47 L_43 f_44 H_45 locs hp_46 hw => ?_)
  obtain ⟨b_48, hWF, hq_49, kp_50, vo_51⟩ := hp_46
  have hVO := vo_tr10 hVO hKP Th (by decide) vo_51
  have hRP := hRP.trans hq_49
  have hKP := hKP.trans kp_50 (by decide) (by decide)
  have hr_17 := kp_at kp_50 hWF Th (by decide) (by decide) (by decide) hr_17
  have tq_52 := rd_eq hr_17
  refine lv_istore_n (lv' := [(2, .int r_47), (0, .ref h), (1, .ref t)]) G0.1 G0.2.1 dX10_faultOf_17 rfl hl (by decide) rfl (fun ls hl => ?_)
  refine lv_iconst (v := 0) G0.1 G0.2.1 dX10_faultOf_18 (by decide) ?_
  refine lv_istore_n (lv' := [(3, .int 0), (2, .int r_47), (0, .ref h), (1, .ref t)]) G0.1 G0.2.1 dX10_faultOf_19 rfl hl (by decide) rfl (fun ls hl => ?_)
  have lo_20 : ∀ n_20 : Nat, ∀ (v_53 : Int32) (v_54 : Int32) (L_j20 : List Nat) (f_j20 : py_F) (H_j20 : Heap) (locs : List Loc) (ls : Array Slot), (2147483647 - v_53.toInt).toNat = n_20 → (0 ≤ v_53.toInt ∧ v_53.toInt ≤ 2147483647) → WF E G L_j20 f_j20 → RP E G f f_j20 → KP G [9, 36, 10, 24, 27, 25, 26] false f f_j20 → VO G f f_j20 (dr_v (f h)) → py_W E (va_A (va_pl L f) s.heap.size) s L_j20 f_j20 H_j20 locs → lv_has ls 4 [(3, .int v_53), (2, .int v_54), (0, .ref h), (1, .ref t)] → W p l e (headSpec w_X10_faultOf ({ frames := 5, cells := 0, slots := 0, locals := 113 })).room s m ([.ref h, .ref t] : List Value).toArray below meth c H_j20 locs 0 0 (MQ below (py_Qi E L f s.heap.size (fun r L1 f1 => ((-1) ≤ r.toInt ∧ r.toInt ≤ 160) ∧ (r.toInt = -1 → 2 ≤ rd_l f1 h) ∧ WF E G L1 f1 ∧ RP E G f f1 ∧ KP G [9, 36, 10, 24, 27, 25, 26] false f f1 ∧ VO G f f1 (dr_v (f h)))) ([.ref h, .ref t] : List Value).toArray s 0 0 (va_A (va_pl L f) s.heap.size)) (F0 m 20 ls []) := by
    intro n_20
    induction n_20 using Nat.strongRecOn with
    | _ n_20 ih_20 =>
      intro v_53 v_54 L_j20 f_j20 H_j20 locs ls hn_20 bv_53 hWF hRP hKP hVO hw hl
      refine lv_iload_n G0.1 G0.2.1 dX10_faultOf_20 rfl (lv_at hl 0 rfl) ?_
      refine lv_sipush (v := 160) G0.1 G0.2.1 dX10_faultOf_21 (by decide) ?_
      refine lv_icmp_ge (tgt := 52) G0.1 G0.2.1 dX10_faultOf_24 (by decide) (fun c_55 => ?_) (fun c_55 => ?_)
      · skip
        have tc_55 := ti_le c_55
        refine lv_iload_n G0.1 G0.2.1 dX10_faultOf_52 rfl (lv_at hl 1 rfl) ?_
        refine lv_if_eq (tgt := 63) G0.1 G0.2.1 dX10_faultOf_53 (by decide) (fun c_56 => ?_) (fun c_56 => ?_)
        · skip
          have tc_56 := ti_eq c_56
          refine lv_aload_n G0.1 G0.2.1 dX10_faultOf_63 rfl (lv_at hl 3 rfl) ?_
          obtain ⟨v_57, v_58, v_59, hr_62, b_60, b_61⟩ := wg_8 hWF Tt
          have bv_59 := wf_free v_59
          have tq_63 := tp_eq hr_62
          refine py_get (C := RX8) (T := TX8) (N := 4) (k := 2) (v := .int v_58) G0 hw in_X10_faultOf_X8 rfl hr_62 (by decide) (by decide +kernel) rfl dX10_faultOf_64 ?_
          obtain ⟨r_64, hr_66, ty_65⟩ := wg_10 hWF Th
          have tq_67 := rd_eq hr_66
          exact py_iret G0 hr rfl hlk hw ⟨⟨by omega, by omega⟩, (by first | omega | (intro q; omega)), hWF, hRP, hKP, hVO⟩ dX10_faultOf_67
        · skip
          have tc_56 := ti_ne c_56
          refine lv_aload_n G0.1 G0.2.1 dX10_faultOf_56 rfl (lv_at hl 3 rfl) ?_
          obtain ⟨v_68, v_69, v_70, hr_73, b_71, b_72⟩ := wg_8 hWF Tt
          have bv_70 := wf_free v_70
          have tq_74 := tp_eq hr_73
          refine py_calli hw (va_runV (As := []) (rest := []) G0 (c_X8_next l E G L_j20 f_j20 H_j20.size t hG hWF Tt) (cwV 0 G0.2.2.2.2 g_X10_faultOf_X8_next_39 rfl rfl rfl (by decide +kernel) ⟨(Nat.le_of_ble_eq_true rfl), (Nat.le_of_ble_eq_true rfl)⟩) (py_preV hw (C := RX8) (T := TX8) (N := 4) rfl hr_73) rfl rfl hl.1 rfl (lv_room (Nat.le_of_ble_eq_true rfl)) dX10_faultOf_57 ⟨(Nat.le_of_ble_eq_true rfl), (Nat.le_of_ble_eq_true rfl)⟩) (fun r_79 L_75 f_76 H_77 locs hp_78 hw => ?_)
          obtain ⟨en_80, hWF, hq_81, kp_82⟩ := hp_78
          have hVO := hVO.kp kp_82 (by decide)
          have hRP := hRP.trans hq_81
          have hKP := hKP.trans kp_82 (by decide) (by decide)
          have br_79 := wf_free r_79
          refine lv_if_eq (tgt := 68) G0.1 G0.2.1 dX10_faultOf_60 (by decide) (fun c_83 => ?_) (fun c_83 => ?_)
          · skip
            have tc_83 := ti_eq c_83
            refine lv_aload_n G0.1 G0.2.1 dX10_faultOf_68 rfl (lv_at hl 2 rfl) ?_
            obtain ⟨r_84, hr_86, ty_85⟩ := wg_10 hWF Th
            have tq_87 := rd_eq hr_86
            refine py_get (C := RX10) (T := TX10) (N := 2) (k := 1) (v := .ref r_84) G0 hw in_X10_faultOf_X10 rfl hr_86 (by decide) (by decide +kernel) rfl dX10_faultOf_69 ?_
            obtain ⟨t_88, t_89, t_90, t_91, t_92, t_93, t_94, t_95⟩ := wt_9 hG ty_85
            obtain ⟨v_96, v_97, hr_100, b_98, b_99⟩ := wg_9 hWF ty_85
            have tq_101 := va_eq hr_100
            refine py_calli hw (va_runV (As := []) (rest := []) G0 (c_X9_isWhole l E G L_75 f_76 H_77.size r_84 hG hWF ty_85) (cwV 0 G0.2.2.2.2 g_X10_faultOf_X9_isWhole_43 rfl rfl rfl (by decide +kernel) ⟨(Nat.le_of_ble_eq_true rfl), (Nat.le_of_ble_eq_true rfl)⟩) (py_preV hw (C := RX9) (T := TX9) (N := 10) rfl hr_100) rfl rfl hl.1 rfl (lv_room (Nat.le_of_ble_eq_true rfl)) dX10_faultOf_72 ⟨(Nat.le_of_ble_eq_true rfl), (Nat.le_of_ble_eq_true rfl)⟩) (fun r_106 L_102 f_103 H_104 locs hp_105 hw => ?_)
            obtain ⟨b_108, en_107, rfl, rfl⟩ := hp_105
            refine lv_if_eq (tgt := 82) G0.1 G0.2.1 dX10_faultOf_75 (by decide) (fun c_109 => ?_) (fun c_109 => ?_)
            · skip
              have tc_109 := ti_eq c_109
              refine lv_aload_n G0.1 G0.2.1 dX10_faultOf_82 rfl (lv_at hl 3 rfl) ?_
              obtain ⟨v_110, v_111, v_112, hr_115, b_113, b_114⟩ := wg_8 hWF Tt
              have bv_112 := wf_free v_112
              have tq_116 := tp_eq hr_115
              refine py_get (C := RX8) (T := TX8) (N := 4) (k := 1) (v := .int v_110) G0 hw in_X10_faultOf_X8 rfl hr_115 (by decide) (by decide +kernel) rfl dX10_faultOf_83 ?_
              exact py_iret G0 hr rfl hlk hw ⟨⟨by omega, by omega⟩, (by first | omega | (intro q; omega)), hWF, hRP, hKP, hVO⟩ dX10_faultOf_86
            · skip
              have tc_109 := ti_ne c_109
              refine lv_iconst (v := (-1)) G0.1 G0.2.1 dX10_faultOf_78 (by decide) ?_
              refine lv_goto (tgt := 86) G0.1 G0.2.1 dX10_faultOf_79 (by decide) ?_
              obtain ⟨v_117, v_118, v_119, hr_122, b_120, b_121⟩ := wg_8 hWF Tt
              have bv_119 := wf_free v_119
              have tq_123 := tp_eq hr_122
              exact py_iret G0 hr rfl hlk hw ⟨⟨by omega, by omega⟩, (by first | omega | (intro q; omega)), hWF, hRP, hKP, hVO⟩ dX10_faultOf_86
          · skip
            have tc_83 := ti_ne c_83
            refine lv_aload_n G0.1 G0.2.1 dX10_faultOf_63 rfl (lv_at hl 3 rfl) ?_
            obtain ⟨v_124, v_125, v_126, hr_129, b_127, b_128⟩ := wg_8 hWF Tt
            have bv_126 := wf_free v_126
            have tq_130 := tp_eq hr_129
            refine py_get (C := RX8) (T := TX8) (N := 4) (k := 2) (v := .int v_125) G0 hw in_X10_faultOf_X8 rfl hr_129 (by decide) (by decide +kernel) rfl dX10_faultOf_64 ?_
            obtain ⟨r_131, hr_133, ty_132⟩ := wg_10 hWF Th
            have tq_134 := rd_eq hr_133
            exact py_iret G0 hr rfl hlk hw ⟨⟨by omega, by omega⟩, (by first | omega | (intro q; omega)), hWF, hRP, hKP, hVO⟩ dX10_faultOf_67
      · skip
        have tc_55 := ti_nle c_55
        refine lv_iload_n G0.1 G0.2.1 dX10_faultOf_27 rfl (lv_at hl 1 rfl) ?_
        refine lv_if_eq (tgt := 52) G0.1 G0.2.1 dX10_faultOf_28 (by decide) (fun c_135 => ?_) (fun c_135 => ?_)
        · skip
          have tc_135 := ti_eq c_135
          refine lv_iload_n G0.1 G0.2.1 dX10_faultOf_52 rfl (lv_at hl 1 rfl) ?_
          refine lv_if_eq (tgt := 63) G0.1 G0.2.1 dX10_faultOf_53 (by decide) (fun c_136 => ?_) (fun c_136 => ?_)
          · skip
            have tc_136 := ti_eq c_136
            refine lv_aload_n G0.1 G0.2.1 dX10_faultOf_63 rfl (lv_at hl 3 rfl) ?_
            obtain ⟨v_137, v_138, v_139, hr_142, b_140, b_141⟩ := wg_8 hWF Tt
            have bv_139 := wf_free v_139
            have tq_143 := tp_eq hr_142
            refine py_get (C := RX8) (T := TX8) (N := 4) (k := 2) (v := .int v_138) G0 hw in_X10_faultOf_X8 rfl hr_142 (by decide) (by decide +kernel) rfl dX10_faultOf_64 ?_
            obtain ⟨r_144, hr_146, ty_145⟩ := wg_10 hWF Th
            have tq_147 := rd_eq hr_146
            exact py_iret G0 hr rfl hlk hw ⟨⟨by omega, by omega⟩, (by first | omega | (intro q; omega)), hWF, hRP, hKP, hVO⟩ dX10_faultOf_67
          · skip
            have tc_136 := ti_ne c_136
            refine lv_aload_n G0.1 G0.2.1 dX10_faultOf_56 rfl (lv_at hl 3 rfl) ?_
            obtain ⟨v_148, v_149, v_150, hr_153, b_151, b_152⟩ := wg_8 hWF Tt
            have bv_150 := wf_free v_150
            have tq_154 := tp_eq hr_153
            refine py_calli hw (va_runV (As := []) (rest := []) G0 (c_X8_next l E G L_j20 f_j20 H_j20.size t hG hWF Tt) (cwV 0 G0.2.2.2.2 g_X10_faultOf_X8_next_39 rfl rfl rfl (by decide +kernel) ⟨(Nat.le_of_ble_eq_true rfl), (Nat.le_of_ble_eq_true rfl)⟩) (py_preV hw (C := RX8) (T := TX8) (N := 4) rfl hr_153) rfl rfl hl.1 rfl (lv_room (Nat.le_of_ble_eq_true rfl)) dX10_faultOf_57 ⟨(Nat.le_of_ble_eq_true rfl), (Nat.le_of_ble_eq_true rfl)⟩) (fun r_159 L_155 f_156 H_157 locs hp_158 hw => ?_)
            obtain ⟨en_160, hWF, hq_161, kp_162⟩ := hp_158
            have hVO := hVO.kp kp_162 (by decide)
            have hRP := hRP.trans hq_161
            have hKP := hKP.trans kp_162 (by decide) (by decide)
            have br_159 := wf_free r_159
            refine lv_if_eq (tgt := 68) G0.1 G0.2.1 dX10_faultOf_60 (by decide) (fun c_163 => ?_) (fun c_163 => ?_)
            · skip
              have tc_163 := ti_eq c_163
              refine lv_aload_n G0.1 G0.2.1 dX10_faultOf_68 rfl (lv_at hl 2 rfl) ?_
              obtain ⟨r_164, hr_166, ty_165⟩ := wg_10 hWF Th
              have tq_167 := rd_eq hr_166
              refine py_get (C := RX10) (T := TX10) (N := 2) (k := 1) (v := .ref r_164) G0 hw in_X10_faultOf_X10 rfl hr_166 (by decide) (by decide +kernel) rfl dX10_faultOf_69 ?_
              obtain ⟨t_168, t_169, t_170, t_171, t_172, t_173, t_174, t_175⟩ := wt_9 hG ty_165
              obtain ⟨v_176, v_177, hr_180, b_178, b_179⟩ := wg_9 hWF ty_165
              have tq_181 := va_eq hr_180
              refine py_calli hw (va_runV (As := []) (rest := []) G0 (c_X9_isWhole l E G L_155 f_156 H_157.size r_164 hG hWF ty_165) (cwV 0 G0.2.2.2.2 g_X10_faultOf_X9_isWhole_43 rfl rfl rfl (by decide +kernel) ⟨(Nat.le_of_ble_eq_true rfl), (Nat.le_of_ble_eq_true rfl)⟩) (py_preV hw (C := RX9) (T := TX9) (N := 10) rfl hr_180) rfl rfl hl.1 rfl (lv_room (Nat.le_of_ble_eq_true rfl)) dX10_faultOf_72 ⟨(Nat.le_of_ble_eq_true rfl), (Nat.le_of_ble_eq_true rfl)⟩) (fun r_186 L_182 f_183 H_184 locs hp_185 hw => ?_)
              obtain ⟨b_188, en_187, rfl, rfl⟩ := hp_185
              refine lv_if_eq (tgt := 82) G0.1 G0.2.1 dX10_faultOf_75 (by decide) (fun c_189 => ?_) (fun c_189 => ?_)
              · skip
                have tc_189 := ti_eq c_189
                refine lv_aload_n G0.1 G0.2.1 dX10_faultOf_82 rfl (lv_at hl 3 rfl) ?_
                obtain ⟨v_190, v_191, v_192, hr_195, b_193, b_194⟩ := wg_8 hWF Tt
                have bv_192 := wf_free v_192
                have tq_196 := tp_eq hr_195
                refine py_get (C := RX8) (T := TX8) (N := 4) (k := 1) (v := .int v_190) G0 hw in_X10_faultOf_X8 rfl hr_195 (by decide) (by decide +kernel) rfl dX10_faultOf_83 ?_
                exact py_iret G0 hr rfl hlk hw ⟨⟨by omega, by omega⟩, (by first | omega | (intro q; omega)), hWF, hRP, hKP, hVO⟩ dX10_faultOf_86
              · skip
                have tc_189 := ti_ne c_189
                refine lv_iconst (v := (-1)) G0.1 G0.2.1 dX10_faultOf_78 (by decide) ?_
                refine lv_goto (tgt := 86) G0.1 G0.2.1 dX10_faultOf_79 (by decide) ?_
                obtain ⟨v_197, v_198, v_199, hr_202, b_200, b_201⟩ := wg_8 hWF Tt
                have bv_199 := wf_free v_199
                have tq_203 := tp_eq hr_202
                exact py_iret G0 hr rfl hlk hw ⟨⟨by omega, by omega⟩, (by first | omega | (intro q; omega)), hWF, hRP, hKP, hVO⟩ dX10_faultOf_86
            · skip
              have tc_163 := ti_ne c_163
              refine lv_aload_n G0.1 G0.2.1 dX10_faultOf_63 rfl (lv_at hl 3 rfl) ?_
              obtain ⟨v_204, v_205, v_206, hr_209, b_207, b_208⟩ := wg_8 hWF Tt
              have bv_206 := wf_free v_206
              have tq_210 := tp_eq hr_209
              refine py_get (C := RX8) (T := TX8) (N := 4) (k := 2) (v := .int v_205) G0 hw in_X10_faultOf_X8 rfl hr_209 (by decide) (by decide +kernel) rfl dX10_faultOf_64 ?_
              obtain ⟨r_211, hr_213, ty_212⟩ := wg_10 hWF Th
              have tq_214 := rd_eq hr_213
              exact py_iret G0 hr rfl hlk hw ⟨⟨by omega, by omega⟩, (by first | omega | (intro q; omega)), hWF, hRP, hKP, hVO⟩ dX10_faultOf_67
        · skip
          have tc_135 := ti_ne c_135
          refine lv_aload_n G0.1 G0.2.1 dX10_faultOf_31 rfl (lv_at hl 3 rfl) ?_
          refine lv_bipush (v := 59) G0.1 G0.2.1 dX10_faultOf_32 (by decide) ?_
          obtain ⟨v_215, v_216, v_217, hr_220, b_218, b_219⟩ := wg_8 hWF Tt
          have bv_217 := wf_free v_217
          have tq_221 := tp_eq hr_220
          refine py_calli hw (va_runV (As := [.int 59]) (rest := []) G0 (c_X8_take l E G L_j20 f_j20 H_j20.size t 59 hG hWF Tt ⟨by omega, by omega⟩) (cwV 1 G0.2.2.2.2 g_X10_faultOf_X8_take_35 rfl rfl rfl (by decide +kernel) ⟨(Nat.le_of_ble_eq_true rfl), (Nat.le_of_ble_eq_true rfl)⟩) (py_preV hw (C := RX8) (T := TX8) (N := 4) rfl hr_220) rfl rfl hl.1 rfl (lv_room (Nat.le_of_ble_eq_true rfl)) dX10_faultOf_34 ⟨(Nat.le_of_ble_eq_true rfl), (Nat.le_of_ble_eq_true rfl)⟩) (fun r_226 L_222 f_223 H_224 locs hp_225 hw => ?_)
          obtain ⟨b_227, hWF, hq_228, kp_229⟩ := hp_225
          have hVO := hVO.kp kp_229 (by decide)
          have hRP := hRP.trans hq_228
          have hKP := hKP.trans kp_229 (by decide) (by decide)
          refine lv_if_eq (tgt := 52) G0.1 G0.2.1 dX10_faultOf_37 (by decide) (fun c_230 => ?_) (fun c_230 => ?_)
          · skip
            have tc_230 := ti_eq c_230
            refine lv_iload_n G0.1 G0.2.1 dX10_faultOf_52 rfl (lv_at hl 1 rfl) ?_
            refine lv_if_eq (tgt := 63) G0.1 G0.2.1 dX10_faultOf_53 (by decide) (fun c_231 => ?_) (fun c_231 => ?_)
            · skip
              have tc_231 := ti_eq c_231
              refine lv_aload_n G0.1 G0.2.1 dX10_faultOf_63 rfl (lv_at hl 3 rfl) ?_
              obtain ⟨v_232, v_233, v_234, hr_237, b_235, b_236⟩ := wg_8 hWF Tt
              have bv_234 := wf_free v_234
              have tq_238 := tp_eq hr_237
              refine py_get (C := RX8) (T := TX8) (N := 4) (k := 2) (v := .int v_233) G0 hw in_X10_faultOf_X8 rfl hr_237 (by decide) (by decide +kernel) rfl dX10_faultOf_64 ?_
              obtain ⟨r_239, hr_241, ty_240⟩ := wg_10 hWF Th
              have tq_242 := rd_eq hr_241
              exact py_iret G0 hr rfl hlk hw ⟨⟨by omega, by omega⟩, (by first | omega | (intro q; omega)), hWF, hRP, hKP, hVO⟩ dX10_faultOf_67
            · skip
              have tc_231 := ti_ne c_231
              refine lv_aload_n G0.1 G0.2.1 dX10_faultOf_56 rfl (lv_at hl 3 rfl) ?_
              obtain ⟨v_243, v_244, v_245, hr_248, b_246, b_247⟩ := wg_8 hWF Tt
              have bv_245 := wf_free v_245
              have tq_249 := tp_eq hr_248
              refine py_calli hw (va_runV (As := []) (rest := []) G0 (c_X8_next l E G L_222 f_223 H_224.size t hG hWF Tt) (cwV 0 G0.2.2.2.2 g_X10_faultOf_X8_next_39 rfl rfl rfl (by decide +kernel) ⟨(Nat.le_of_ble_eq_true rfl), (Nat.le_of_ble_eq_true rfl)⟩) (py_preV hw (C := RX8) (T := TX8) (N := 4) rfl hr_248) rfl rfl hl.1 rfl (lv_room (Nat.le_of_ble_eq_true rfl)) dX10_faultOf_57 ⟨(Nat.le_of_ble_eq_true rfl), (Nat.le_of_ble_eq_true rfl)⟩) (fun r_254 L_250 f_251 H_252 locs hp_253 hw => ?_)
              obtain ⟨en_255, hWF, hq_256, kp_257⟩ := hp_253
              have hVO := hVO.kp kp_257 (by decide)
              have hRP := hRP.trans hq_256
              have hKP := hKP.trans kp_257 (by decide) (by decide)
              have br_254 := wf_free r_254
              refine lv_if_eq (tgt := 68) G0.1 G0.2.1 dX10_faultOf_60 (by decide) (fun c_258 => ?_) (fun c_258 => ?_)
              · skip
                have tc_258 := ti_eq c_258
                refine lv_aload_n G0.1 G0.2.1 dX10_faultOf_68 rfl (lv_at hl 2 rfl) ?_
                obtain ⟨r_259, hr_261, ty_260⟩ := wg_10 hWF Th
                have tq_262 := rd_eq hr_261
                refine py_get (C := RX10) (T := TX10) (N := 2) (k := 1) (v := .ref r_259) G0 hw in_X10_faultOf_X10 rfl hr_261 (by decide) (by decide +kernel) rfl dX10_faultOf_69 ?_
                obtain ⟨t_263, t_264, t_265, t_266, t_267, t_268, t_269, t_270⟩ := wt_9 hG ty_260
                obtain ⟨v_271, v_272, hr_275, b_273, b_274⟩ := wg_9 hWF ty_260
                have tq_276 := va_eq hr_275
                refine py_calli hw (va_runV (As := []) (rest := []) G0 (c_X9_isWhole l E G L_250 f_251 H_252.size r_259 hG hWF ty_260) (cwV 0 G0.2.2.2.2 g_X10_faultOf_X9_isWhole_43 rfl rfl rfl (by decide +kernel) ⟨(Nat.le_of_ble_eq_true rfl), (Nat.le_of_ble_eq_true rfl)⟩) (py_preV hw (C := RX9) (T := TX9) (N := 10) rfl hr_275) rfl rfl hl.1 rfl (lv_room (Nat.le_of_ble_eq_true rfl)) dX10_faultOf_72 ⟨(Nat.le_of_ble_eq_true rfl), (Nat.le_of_ble_eq_true rfl)⟩) (fun r_281 L_277 f_278 H_279 locs hp_280 hw => ?_)
                obtain ⟨b_283, en_282, rfl, rfl⟩ := hp_280
                refine lv_if_eq (tgt := 82) G0.1 G0.2.1 dX10_faultOf_75 (by decide) (fun c_284 => ?_) (fun c_284 => ?_)
                · skip
                  have tc_284 := ti_eq c_284
                  refine lv_aload_n G0.1 G0.2.1 dX10_faultOf_82 rfl (lv_at hl 3 rfl) ?_
                  obtain ⟨v_285, v_286, v_287, hr_290, b_288, b_289⟩ := wg_8 hWF Tt
                  have bv_287 := wf_free v_287
                  have tq_291 := tp_eq hr_290
                  refine py_get (C := RX8) (T := TX8) (N := 4) (k := 1) (v := .int v_285) G0 hw in_X10_faultOf_X8 rfl hr_290 (by decide) (by decide +kernel) rfl dX10_faultOf_83 ?_
                  exact py_iret G0 hr rfl hlk hw ⟨⟨by omega, by omega⟩, (by first | omega | (intro q; omega)), hWF, hRP, hKP, hVO⟩ dX10_faultOf_86
                · skip
                  have tc_284 := ti_ne c_284
                  refine lv_iconst (v := (-1)) G0.1 G0.2.1 dX10_faultOf_78 (by decide) ?_
                  refine lv_goto (tgt := 86) G0.1 G0.2.1 dX10_faultOf_79 (by decide) ?_
                  obtain ⟨v_292, v_293, v_294, hr_297, b_295, b_296⟩ := wg_8 hWF Tt
                  have bv_294 := wf_free v_294
                  have tq_298 := tp_eq hr_297
                  exact py_iret G0 hr rfl hlk hw ⟨⟨by omega, by omega⟩, (by first | omega | (intro q; omega)), hWF, hRP, hKP, hVO⟩ dX10_faultOf_86
              · skip
                have tc_258 := ti_ne c_258
                refine lv_aload_n G0.1 G0.2.1 dX10_faultOf_63 rfl (lv_at hl 3 rfl) ?_
                obtain ⟨v_299, v_300, v_301, hr_304, b_302, b_303⟩ := wg_8 hWF Tt
                have bv_301 := wf_free v_301
                have tq_305 := tp_eq hr_304
                refine py_get (C := RX8) (T := TX8) (N := 4) (k := 2) (v := .int v_300) G0 hw in_X10_faultOf_X8 rfl hr_304 (by decide) (by decide +kernel) rfl dX10_faultOf_64 ?_
                obtain ⟨r_306, hr_308, ty_307⟩ := wg_10 hWF Th
                have tq_309 := rd_eq hr_308
                exact py_iret G0 hr rfl hlk hw ⟨⟨by omega, by omega⟩, (by first | omega | (intro q; omega)), hWF, hRP, hKP, hVO⟩ dX10_faultOf_67
          · skip
            have tc_230 := ti_ne c_230
            refine lv_aload_n G0.1 G0.2.1 dX10_faultOf_40 rfl (lv_at hl 2 rfl) ?_
            refine lv_aload_n G0.1 G0.2.1 dX10_faultOf_41 rfl (lv_at hl 3 rfl) ?_
            obtain ⟨r_310, hr_312, ty_311⟩ := wg_10 hWF Th
            have tq_313 := rd_eq hr_312
            refine py_calli hw (va_runV (As := [.ref t]) (rest := []) G0 (c_X10_readClause l E G L_222 f_223 H_224.size h t hG hWF Th Tt) (cwV 1 G0.2.2.2.2 g_X10_faultOf_X10_readClause_31 rfl rfl rfl (by decide +kernel) ⟨(Nat.le_of_ble_eq_true rfl), (Nat.le_of_ble_eq_true rfl)⟩) (py_preV hw (C := RX10) (T := TX10) (N := 2) rfl hr_312) rfl rfl hl.1 rfl (lv_room (Nat.le_of_ble_eq_true rfl)) dX10_faultOf_42 ⟨(Nat.le_of_ble_eq_true rfl), (Nat.le_of_ble_eq_true rfl)⟩) (fun r_318 L_314 f_315 H_316 locs hp_317 hw => ?_)
            obtain ⟨b_319, hWF, hq_320, kp_321, vo_322⟩ := hp_317
            have hVO := vo_tr10 hVO hKP Th (by decide) vo_322
            have hRP := hRP.trans hq_320
            have hKP := hKP.trans kp_321 (by decide) (by decide)
            have hr_312 := kp_at kp_321 hWF Th (by decide) (by decide) (by decide) hr_312
            have tq_323 := rd_eq hr_312
            refine lv_istore_n (lv' := [(2, .int r_318), (3, .int v_53), (0, .ref h), (1, .ref t)]) G0.1 G0.2.1 dX10_faultOf_45 rfl hl (by decide) rfl (fun ls hl => ?_)
            obtain ⟨x_324, ex_324⟩ : ∃ y : Int32, y = v_53 + 1 := ⟨_, rfl⟩
            first | have tx_324 := ti_add ex_324 (by omega) (by omega) | skip
            refine lv_iinc (v := x_324) (lv' := [(3, .int x_324), (2, .int r_318), (0, .ref h), (1, .ref t)]) G0.1 G0.2.1 dX10_faultOf_46 hl (k := 1) rfl (show _ + (1 : Int32) = _ from ex_324.symm) (by decide) rfl (fun ls hl => ?_)
            refine lv_goto (tgt := 20) G0.1 G0.2.1 dX10_faultOf_49 (by decide) ?_
            exact ih_20 ((2147483647 - x_324.toInt).toNat) (by omega) x_324 r_318 L_314 f_315 _ _ ls rfl ⟨by omega, by omega⟩ hWF hRP hKP hVO hw (lv_sub hl [0, 1, 2, 3] rfl)
  exact lo_20 _ 0 r_47 L_43 f_44 _ _ ls rfl ⟨by omega, by omega⟩ hWF hRP hKP hVO hw (lv_sub hl [0, 1, 2, 3] rfl)
