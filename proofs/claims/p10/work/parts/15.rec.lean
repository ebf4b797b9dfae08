theorem dX4_readAtom_0 : decode cX4_readAtom 0 = .ok (.aload_n 1, 1) := by decide +kernel
theorem dX4_readAtom_1 : decode cX4_readAtom 1 = .ok (.invokevirtual 35, 3) := by decide +kernel
theorem dX4_readAtom_4 : decode cX4_readAtom 4 = .ok (.istore_n 3, 1) := by decide +kernel
theorem dX4_readAtom_5 : decode cX4_readAtom 5 = .ok (.iload_n 3, 1) := by decide +kernel
theorem dX4_readAtom_6 : decode cX4_readAtom 6 = .ok (.bipush 91, 2) := by decide +kernel
theorem dX4_readAtom_8 : decode cX4_readAtom 8 = .ok (.if_icmp .ne 11, 3) := by decide +kernel
theorem dX4_readAtom_11 : decode cX4_readAtom 11 = .ok (.aload_n 0, 1) := by decide +kernel
theorem dX4_readAtom_12 : decode cX4_readAtom 12 = .ok (.aload_n 1, 1) := by decide +kernel
theorem dX4_readAtom_13 : decode cX4_readAtom 13 = .ok (.iload_n 3, 1) := by decide +kernel
theorem dX4_readAtom_14 : decode cX4_readAtom 14 = .ok (.iload_n 2, 1) := by decide +kernel
theorem dX4_readAtom_15 : decode cX4_readAtom 15 = .ok (.invokevirtual 66, 3) := by decide +kernel
theorem dX4_readAtom_18 : decode cX4_readAtom 18 = .ok (.ireturn, 1) := by decide +kernel
theorem dX4_readAtom_19 : decode cX4_readAtom 19 = .ok (.iconst 0, 1) := by decide +kernel
theorem dX4_readAtom_20 : decode cX4_readAtom 20 = .ok (.istore 4, 2) := by decide +kernel
theorem dX4_readAtom_22 : decode cX4_readAtom 22 = .ok (.iload 4, 2) := by decide +kernel
theorem dX4_readAtom_24 : decode cX4_readAtom 24 = .ok (.getstatic 70, 3) := by decide +kernel
theorem dX4_readAtom_27 : decode cX4_readAtom 27 = .ok (.arraylength, 1) := by decide +kernel
theorem dX4_readAtom_28 : decode cX4_readAtom 28 = .ok (.if_icmp .ge 42, 3) := by decide +kernel
theorem dX4_readAtom_31 : decode cX4_readAtom 31 = .ok (.getstatic 70, 3) := by decide +kernel
theorem dX4_readAtom_34 : decode cX4_readAtom 34 = .ok (.iload 4, 2) := by decide +kernel
theorem dX4_readAtom_36 : decode cX4_readAtom 36 = .ok (.caload, 1) := by decide +kernel
theorem dX4_readAtom_37 : decode cX4_readAtom 37 = .ok (.iload_n 3, 1) := by decide +kernel
theorem dX4_readAtom_38 : decode cX4_readAtom 38 = .ok (.if_icmp .ne 26, 3) := by decide +kernel
theorem dX4_readAtom_41 : decode cX4_readAtom 41 = .ok (.aload_n 1, 1) := by decide +kernel
theorem dX4_readAtom_42 : decode cX4_readAtom 42 = .ok (.dup, 1) := by decide +kernel
theorem dX4_readAtom_43 : decode cX4_readAtom 43 = .ok (.getfield 18, 3) := by decide +kernel
theorem dX4_readAtom_46 : decode cX4_readAtom 46 = .ok (.iconst 1, 1) := by decide +kernel
theorem dX4_readAtom_47 : decode cX4_readAtom 47 = .ok (.iadd, 1) := by decide +kernel
theorem dX4_readAtom_48 : decode cX4_readAtom 48 = .ok (.putfield 18, 3) := by decide +kernel
theorem dX4_readAtom_51 : decode cX4_readAtom 51 = .ok (.aload_n 0, 1) := by decide +kernel
theorem dX4_readAtom_52 : decode cX4_readAtom 52 = .ok (.getfield 12, 3) := by decide +kernel
theorem dX4_readAtom_55 : decode cX4_readAtom 55 = .ok (.bipush 121, 2) := by decide +kernel
theorem dX4_readAtom_57 : decode cX4_readAtom 57 = .ok (.iload 4, 2) := by decide +kernel
theorem dX4_readAtom_59 : decode cX4_readAtom 59 = .ok (.invokevirtual 46, 3) := by decide +kernel
theorem dX4_readAtom_62 : decode cX4_readAtom 62 = .ok (.iconst 1, 1) := by decide +kernel
theorem dX4_readAtom_63 : decode cX4_readAtom 63 = .ok (.ireturn, 1) := by decide +kernel
theorem dX4_readAtom_64 : decode cX4_readAtom 64 = .ok (.iinc 4 1, 3) := by decide +kernel
theorem dX4_readAtom_67 : decode cX4_readAtom 67 = .ok (.goto (-45), 3) := by decide +kernel
theorem dX4_readAtom_70 : decode cX4_readAtom 70 = .ok (.aload_n 1, 1) := by decide +kernel
theorem dX4_readAtom_71 : decode cX4_readAtom 71 = .ok (.iconst 4, 1) := by decide +kernel
theorem dX4_readAtom_72 : decode cX4_readAtom 72 = .ok (.invokevirtual 74, 3) := by decide +kernel
theorem dX4_readAtom_75 : decode cX4_readAtom 75 = .ok (.ifCond .ne 5, 3) := by decide +kernel
theorem dX4_readAtom_78 : decode cX4_readAtom 78 = .ok (.iconst 0, 1) := by decide +kernel
theorem dX4_readAtom_79 : decode cX4_readAtom 79 = .ok (.ireturn, 1) := by decide +kernel
theorem dX4_readAtom_80 : decode cX4_readAtom 80 = .ok (.aload_n 0, 1) := by decide +kernel
theorem dX4_readAtom_81 : decode cX4_readAtom 81 = .ok (.getfield 12, 3) := by decide +kernel
theorem dX4_readAtom_84 : decode cX4_readAtom 84 = .ok (.bipush 48, 2) := by decide +kernel
theorem dX4_readAtom_86 : decode cX4_readAtom 86 = .ok (.aload_n 1, 1) := by decide +kernel
theorem dX4_readAtom_87 : decode cX4_readAtom 87 = .ok (.getfield 77, 3) := by decide +kernel
theorem dX4_readAtom_90 : decode cX4_readAtom 90 = .ok (.invokevirtual 46, 3) := by decide +kernel
theorem dX4_readAtom_93 : decode cX4_readAtom 93 = .ok (.iconst 1, 1) := by decide +kernel
theorem dX4_readAtom_94 : decode cX4_readAtom 94 = .ok (.ireturn, 1) := by decide +kernel
theorem dX4_readChain_0 : decode cX4_readChain 0 = .ok (.iconst 0, 1) := by decide +kernel
theorem dX4_readChain_1 : decode cX4_readChain 1 = .ok (.istore 5, 2) := by decide +kernel
theorem dX4_readChain_3 : decode cX4_readChain 3 = .ok (.iconst 0, 1) := by decide +kernel
theorem dX4_readChain_4 : decode cX4_readChain 4 = .ok (.istore 6, 2) := by decide +kernel
theorem dX4_readChain_6 : decode cX4_readChain 6 = .ok (.iload 6, 2) := by decide +kernel
theorem dX4_readChain_8 : decode cX4_readChain 8 = .ok (.sipush 160, 3) := by decide +kernel
theorem dX4_readChain_11 : decode cX4_readChain 11 = .ok (.if_icmp .ge 122, 3) := by decide +kernel
theorem dX4_readChain_14 : decode cX4_readChain 14 = .ok (.iload 4, 2) := by decide +kernel
theorem dX4_readChain_16 : decode cX4_readChain 16 = .ok (.ifCond .eq 12, 3) := by decide +kernel
theorem dX4_readChain_19 : decode cX4_readChain 19 = .ok (.iload 6, 2) := by decide +kernel
theorem dX4_readChain_21 : decode cX4_readChain 21 = .ok (.ifCond .ne 7, 3) := by decide +kernel
theorem dX4_readChain_24 : decode cX4_readChain 24 = .ok (.iconst 1, 1) := by decide +kernel
theorem dX4_readChain_25 : decode cX4_readChain 25 = .ok (.goto 4, 3) := by decide +kernel
theorem dX4_readChain_28 : decode cX4_readChain 28 = .ok (.iconst 0, 1) := by decide +kernel
theorem dX4_readChain_29 : decode cX4_readChain 29 = .ok (.istore 7, 2) := by decide +kernel
theorem dX4_readChain_31 : decode cX4_readChain 31 = .ok (.iload_n 2, 1) := by decide +kernel
theorem dX4_readChain_32 : decode cX4_readChain 32 = .ok (.iconst 1, 1) := by decide +kernel
theorem dX4_readChain_33 : decode cX4_readChain 33 = .ok (.if_icmp .ne 16, 3) := by decide +kernel
theorem dX4_readChain_36 : decode cX4_readChain 36 = .ok (.aload_n 0, 1) := by decide +kernel
theorem dX4_readChain_37 : decode cX4_readChain 37 = .ok (.aload_n 1, 1) := by decide +kernel
theorem dX4_readChain_38 : decode cX4_readChain 38 = .ok (.iload_n 3, 1) := by decide +kernel
theorem dX4_readChain_39 : decode cX4_readChain 39 = .ok (.iload 7, 2) := by decide +kernel
theorem dX4_readChain_41 : decode cX4_readChain 41 = .ok (.invokevirtual 54, 3) := by decide +kernel
theorem dX4_readChain_44 : decode cX4_readChain 44 = .ok (.istore 8, 2) := by decide +kernel
theorem dX4_readChain_46 : decode cX4_readChain 46 = .ok (.goto 32, 3) := by decide +kernel
theorem dX4_readChain_49 : decode cX4_readChain 49 = .ok (.iload_n 2, 1) := by decide +kernel
theorem dX4_readChain_50 : decode cX4_readChain 50 = .ok (.iconst 3, 1) := by decide +kernel
theorem dX4_readChain_51 : decode cX4_readChain 51 = .ok (.if_icmp .ne 14, 3) := by decide +kernel
theorem dX4_readChain_54 : decode cX4_readChain 54 = .ok (.aload_n 0, 1) := by decide +kernel
theorem dX4_readChain_55 : decode cX4_readChain 55 = .ok (.aload_n 1, 1) := by decide +kernel
theorem dX4_readChain_56 : decode cX4_readChain 56 = .ok (.iload_n 3, 1) := by decide +kernel
theorem dX4_readChain_57 : decode cX4_readChain 57 = .ok (.invokevirtual 58, 3) := by decide +kernel
theorem dX4_readChain_60 : decode cX4_readChain 60 = .ok (.istore 8, 2) := by decide +kernel
theorem dX4_readChain_62 : decode cX4_readChain 62 = .ok (.goto 16, 3) := by decide +kernel
theorem dX4_readChain_65 : decode cX4_readChain 65 = .ok (.aload_n 0, 1) := by decide +kernel
theorem dX4_readChain_66 : decode cX4_readChain 66 = .ok (.aload_n 1, 1) := by decide +kernel
theorem dX4_readChain_67 : decode cX4_readChain 67 = .ok (.iload_n 2, 1) := by decide +kernel
theorem dX4_readChain_68 : decode cX4_readChain 68 = .ok (.iconst 1, 1) := by decide +kernel
theorem dX4_readChain_69 : decode cX4_readChain 69 = .ok (.iadd, 1) := by decide +kernel
theorem dX4_readChain_70 : decode cX4_readChain 70 = .ok (.iload_n 3, 1) := by decide +kernel
theorem dX4_readChain_71 : decode cX4_readChain 71 = .ok (.iload 7, 2) := by decide +kernel
theorem dX4_readChain_73 : decode cX4_readChain 73 = .ok (.invokevirtual 39, 3) := by decide +kernel
theorem dX4_readChain_76 : decode cX4_readChain 76 = .ok (.istore 8, 2) := by decide +kernel
theorem dX4_readChain_78 : decode cX4_readChain 78 = .ok (.iload 8, 2) := by decide +kernel
theorem dX4_readChain_80 : decode cX4_readChain 80 = .ok (.ifCond .ne 5, 3) := by decide +kernel
theorem dX4_readChain_83 : decode cX4_readChain 83 = .ok (.iconst 0, 1) := by decide +kernel
theorem dX4_readChain_84 : decode cX4_readChain 84 = .ok (.ireturn, 1) := by decide +kernel
theorem dX4_readChain_85 : decode cX4_readChain 85 = .ok (.iload 6, 2) := by decide +kernel
theorem dX4_readChain_87 : decode cX4_readChain 87 = .ok (.ifCond .le 13, 3) := by decide +kernel
theorem dX4_readChain_90 : decode cX4_readChain 90 = .ok (.aload_n 0, 1) := by decide +kernel
theorem dX4_readChain_91 : decode cX4_readChain 91 = .ok (.getfield 12, 3) := by decide +kernel
theorem dX4_readChain_94 : decode cX4_readChain 94 = .ok (.iload 5, 2) := by decide +kernel
theorem dX4_readChain_96 : decode cX4_readChain 96 = .ok (.iconst 0, 1) := by decide +kernel
theorem dX4_readChain_97 : decode cX4_readChain 97 = .ok (.invokevirtual 46, 3) := by decide +kernel
theorem dX4_readChain_100 : decode cX4_readChain 100 = .ok (.aload_n 1, 1) := by decide +kernel
theorem dX4_readChain_101 : decode cX4_readChain 101 = .ok (.invokevirtual 35, 3) := by decide +kernel
theorem dX4_readChain_104 : decode cX4_readChain 104 = .ok (.istore 5, 2) := by decide +kernel
theorem dX4_readChain_106 : decode cX4_readChain 106 = .ok (.iload 5, 2) := by decide +kernel
theorem dX4_readChain_108 : decode cX4_readChain 108 = .ok (.invokestatic 62, 3) := by decide +kernel
theorem dX4_readChain_111 : decode cX4_readChain 111 = .ok (.iload_n 2, 1) := by decide +kernel
theorem dX4_readChain_112 : decode cX4_readChain 112 = .ok (.if_icmp .eq 5, 3) := by decide +kernel
theorem dX4_readChain_115 : decode cX4_readChain 115 = .ok (.iconst 1, 1) := by decide +kernel
theorem dX4_readChain_116 : decode cX4_readChain 116 = .ok (.ireturn, 1) := by decide +kernel
theorem dX4_readChain_117 : decode cX4_readChain 117 = .ok (.aload_n 1, 1) := by decide +kernel
theorem dX4_readChain_118 : decode cX4_readChain 118 = .ok (.dup, 1) := by decide +kernel
theorem dX4_readChain_119 : decode cX4_readChain 119 = .ok (.getfield 18, 3) := by decide +kernel
theorem dX4_readChain_122 : decode cX4_readChain 122 = .ok (.iconst 1, 1) := by decide +kernel
theorem dX4_readChain_123 : decode cX4_readChain 123 = .ok (.iadd, 1) := by decide +kernel
theorem dX4_readChain_124 : decode cX4_readChain 124 = .ok (.putfield 18, 3) := by decide +kernel
theorem dX4_readChain_127 : decode cX4_readChain 127 = .ok (.iinc 6 1, 3) := by decide +kernel
theorem dX4_readChain_130 : decode cX4_readChain 130 = .ok (.goto (-124), 3) := by decide +kernel
theorem dX4_readChain_133 : decode cX4_readChain 133 = .ok (.iconst 0, 1) := by decide +kernel
theorem dX4_readChain_134 : decode cX4_readChain 134 = .ok (.ireturn, 1) := by decide +kernel
theorem dX4_readNested_0 : decode cX4_readNested 0 = .ok (.iload_n 3, 1) := by decide +kernel
theorem dX4_readNested_1 : decode cX4_readNested 1 = .ok (.bipush 6, 2) := by decide +kernel
theorem dX4_readNested_3 : decode cX4_readNested 3 = .ok (.if_icmp .lt 5, 3) := by decide +kernel
theorem dX4_readNested_6 : decode cX4_readNested 6 = .ok (.iconst 0, 1) := by decide +kernel
theorem dX4_readNested_7 : decode cX4_readNested 7 = .ok (.ireturn, 1) := by decide +kernel
theorem dX4_readNested_8 : decode cX4_readNested 8 = .ok (.aload_n 1, 1) := by decide +kernel
theorem dX4_readNested_9 : decode cX4_readNested 9 = .ok (.dup, 1) := by decide +kernel
theorem dX4_readNested_10 : decode cX4_readNested 10 = .ok (.getfield 18, 3) := by decide +kernel
theorem dX4_readNested_13 : decode cX4_readNested 13 = .ok (.iconst 1, 1) := by decide +kernel
theorem dX4_readNested_14 : decode cX4_readNested 14 = .ok (.iadd, 1) := by decide +kernel
theorem dX4_readNested_15 : decode cX4_readNested 15 = .ok (.putfield 18, 3) := by decide +kernel
theorem dX4_readNested_18 : decode cX4_readNested 18 = .ok (.iload_n 2, 1) := by decide +kernel
theorem dX4_readNested_19 : decode cX4_readNested 19 = .ok (.bipush 33, 2) := by decide +kernel
theorem dX4_readNested_21 : decode cX4_readNested 21 = .ok (.if_icmp .ne 27, 3) := by decide +kernel
theorem dX4_readNested_24 : decode cX4_readNested 24 = .ok (.aload_n 0, 1) := by decide +kernel
theorem dX4_readNested_25 : decode cX4_readNested 25 = .ok (.aload_n 1, 1) := by decide +kernel
theorem dX4_readNested_26 : decode cX4_readNested 26 = .ok (.iload_n 3, 1) := by decide +kernel
theorem dX4_readNested_27 : decode cX4_readNested 27 = .ok (.iconst 1, 1) := by decide +kernel
theorem dX4_readNested_28 : decode cX4_readNested 28 = .ok (.iadd, 1) := by decide +kernel
theorem dX4_readNested_29 : decode cX4_readNested 29 = .ok (.iconst 0, 1) := by decide +kernel
theorem dX4_readNested_30 : decode cX4_readNested 30 = .ok (.invokevirtual 54, 3) := by decide +kernel
theorem dX4_readNested_33 : decode cX4_readNested 33 = .ok (.istore 4, 2) := by decide +kernel
theorem dX4_readNested_35 : decode cX4_readNested 35 = .ok (.aload_n 0, 1) := by decide +kernel
theorem dX4_readNested_36 : decode cX4_readNested 36 = .ok (.getfield 12, 3) := by decide +kernel
theorem dX4_readNested_39 : decode cX4_readNested 39 = .ok (.bipush 33, 2) := by decide +kernel
theorem dX4_readNested_41 : decode cX4_readNested 41 = .ok (.iconst 0, 1) := by decide +kernel
theorem dX4_readNested_42 : decode cX4_readNested 42 = .ok (.invokevirtual 46, 3) := by decide +kernel
theorem dX4_readNested_45 : decode cX4_readNested 45 = .ok (.iload 4, 2) := by decide +kernel
theorem dX4_readNested_47 : decode cX4_readNested 47 = .ok (.ireturn, 1) := by decide +kernel
theorem dX4_readNested_48 : decode cX4_readNested 48 = .ok (.iload_n 2, 1) := by decide +kernel
theorem dX4_readNested_49 : decode cX4_readNested 49 = .ok (.bipush 40, 2) := by decide +kernel
theorem dX4_readNested_51 : decode cX4_readNested 51 = .ok (.if_icmp .ne 31, 3) := by decide +kernel
theorem dX4_readNested_54 : decode cX4_readNested 54 = .ok (.aload_n 0, 1) := by decide +kernel
theorem dX4_readNested_55 : decode cX4_readNested 55 = .ok (.aload_n 1, 1) := by decide +kernel
theorem dX4_readNested_56 : decode cX4_readNested 56 = .ok (.iconst 0, 1) := by decide +kernel
theorem dX4_readNested_57 : decode cX4_readNested 57 = .ok (.iload_n 3, 1) := by decide +kernel
theorem dX4_readNested_58 : decode cX4_readNested 58 = .ok (.iconst 1, 1) := by decide +kernel
theorem dX4_readNested_59 : decode cX4_readNested 59 = .ok (.iadd, 1) := by decide +kernel
theorem dX4_readNested_60 : decode cX4_readNested 60 = .ok (.iconst 0, 1) := by decide +kernel
theorem dX4_readNested_61 : decode cX4_readNested 61 = .ok (.invokevirtual 39, 3) := by decide +kernel
theorem dX4_readNested_64 : decode cX4_readNested 64 = .ok (.ifCond .eq 16, 3) := by decide +kernel
theorem dX4_readNested_67 : decode cX4_readNested 67 = .ok (.aload_n 1, 1) := by decide +kernel
theorem dX4_readNested_68 : decode cX4_readNested 68 = .ok (.bipush 41, 2) := by decide +kernel
theorem dX4_readNested_70 : decode cX4_readNested 70 = .ok (.invokevirtual 31, 3) := by decide +kernel
theorem dX4_readNested_73 : decode cX4_readNested 73 = .ok (.ifCond .eq 7, 3) := by decide +kernel
theorem dX4_readNested_76 : decode cX4_readNested 76 = .ok (.iconst 1, 1) := by decide +kernel
theorem dX4_readNested_77 : decode cX4_readNested 77 = .ok (.goto 4, 3) := by decide +kernel
theorem dX4_readNested_80 : decode cX4_readNested 80 = .ok (.iconst 0, 1) := by decide +kernel
theorem dX4_readNested_81 : decode cX4_readNested 81 = .ok (.ireturn, 1) := by decide +kernel
theorem dX4_readNested_82 : decode cX4_readNested 82 = .ok (.aload_n 0, 1) := by decide +kernel
theorem dX4_readNested_83 : decode cX4_readNested 83 = .ok (.aload_n 1, 1) := by decide +kernel
theorem dX4_readNested_84 : decode cX4_readNested 84 = .ok (.iconst 2, 1) := by decide +kernel
theorem dX4_readNested_85 : decode cX4_readNested 85 = .ok (.iload_n 3, 1) := by decide +kernel
theorem dX4_readNested_86 : decode cX4_readNested 86 = .ok (.iconst 1, 1) := by decide +kernel
theorem dX4_readNested_87 : decode cX4_readNested 87 = .ok (.iadd, 1) := by decide +kernel
theorem dX4_readNested_88 : decode cX4_readNested 88 = .ok (.iconst 0, 1) := by decide +kernel
theorem dX4_readNested_89 : decode cX4_readNested 89 = .ok (.invokevirtual 39, 3) := by decide +kernel
theorem dX4_readNested_92 : decode cX4_readNested 92 = .ok (.ifCond .eq 16, 3) := by decide +kernel
theorem dX4_readNested_95 : decode cX4_readNested 95 = .ok (.aload_n 1, 1) := by decide +kernel
theorem dX4_readNested_96 : decode cX4_readNested 96 = .ok (.bipush 93, 2) := by decide +kernel
theorem dX4_readNested_98 : decode cX4_readNested 98 = .ok (.invokevirtual 31, 3) := by decide +kernel
theorem dX4_readNested_101 : decode cX4_readNested 101 = .ok (.ifCond .eq 7, 3) := by decide +kernel
theorem dX4_readNested_104 : decode cX4_readNested 104 = .ok (.iconst 1, 1) := by decide +kernel
theorem dX4_readNested_105 : decode cX4_readNested 105 = .ok (.goto 4, 3) := by decide +kernel
theorem dX4_readNested_108 : decode cX4_readNested 108 = .ok (.iconst 0, 1) := by decide +kernel
theorem dX4_readNested_109 : decode cX4_readNested 109 = .ok (.ireturn, 1) := by decide +kernel
theorem dX4_readUnit_0 : decode cX4_readUnit 0 = .ok (.iload_n 3, 1) := by decide +kernel
theorem dX4_readUnit_1 : decode cX4_readUnit 1 = .ok (.ifCond .eq 7, 3) := by decide +kernel
theorem dX4_readUnit_4 : decode cX4_readUnit 4 = .ok (.iconst 0, 1) := by decide +kernel
theorem dX4_readUnit_5 : decode cX4_readUnit 5 = .ok (.goto 7, 3) := by decide +kernel
theorem dX4_readUnit_8 : decode cX4_readUnit 8 = .ok (.aload_n 1, 1) := by decide +kernel
theorem dX4_readUnit_9 : decode cX4_readUnit 9 = .ok (.invokevirtual 35, 3) := by decide +kernel
theorem dX4_readUnit_12 : decode cX4_readUnit 12 = .ok (.istore 4, 2) := by decide +kernel
theorem dX4_readUnit_14 : decode cX4_readUnit 14 = .ok (.iload 4, 2) := by decide +kernel
theorem dX4_readUnit_16 : decode cX4_readUnit 16 = .ok (.bipush 33, 2) := by decide +kernel
theorem dX4_readUnit_18 : decode cX4_readUnit 18 = .ok (.if_icmp .eq 10, 3) := by decide +kernel
theorem dX4_readUnit_21 : decode cX4_readUnit 21 = .ok (.iload 4, 2) := by decide +kernel
theorem dX4_readUnit_23 : decode cX4_readUnit 23 = .ok (.bipush 40, 2) := by decide +kernel
theorem dX4_readUnit_25 : decode cX4_readUnit 25 = .ok (.if_icmp .ne 12, 3) := by decide +kernel
theorem dX4_readUnit_28 : decode cX4_readUnit 28 = .ok (.aload_n 0, 1) := by decide +kernel
theorem dX4_readUnit_29 : decode cX4_readUnit 29 = .ok (.aload_n 1, 1) := by decide +kernel
theorem dX4_readUnit_30 : decode cX4_readUnit 30 = .ok (.iload 4, 2) := by decide +kernel
theorem dX4_readUnit_32 : decode cX4_readUnit 32 = .ok (.iload_n 2, 1) := by decide +kernel
theorem dX4_readUnit_33 : decode cX4_readUnit 33 = .ok (.invokevirtual 66, 3) := by decide +kernel
theorem dX4_readUnit_36 : decode cX4_readUnit 36 = .ok (.ireturn, 1) := by decide +kernel
theorem dX4_readUnit_37 : decode cX4_readUnit 37 = .ok (.iload_n 3, 1) := by decide +kernel
theorem dX4_readUnit_38 : decode cX4_readUnit 38 = .ok (.ifCond .ne 16, 3) := by decide +kernel
theorem dX4_readUnit_41 : decode cX4_readUnit 41 = .ok (.aload_n 0, 1) := by decide +kernel
theorem dX4_readUnit_42 : decode cX4_readUnit 42 = .ok (.aload_n 1, 1) := by decide +kernel
theorem dX4_readUnit_43 : decode cX4_readUnit 43 = .ok (.iconst 2, 1) := by decide +kernel
theorem dX4_readUnit_44 : decode cX4_readUnit 44 = .ok (.iload_n 2, 1) := by decide +kernel
theorem dX4_readUnit_45 : decode cX4_readUnit 45 = .ok (.iconst 0, 1) := by decide +kernel
theorem dX4_readUnit_46 : decode cX4_readUnit 46 = .ok (.invokevirtual 39, 3) := by decide +kernel
theorem dX4_readUnit_49 : decode cX4_readUnit 49 = .ok (.ifCond .ne 5, 3) := by decide +kernel
theorem dX4_readUnit_52 : decode cX4_readUnit 52 = .ok (.iconst 0, 1) := by decide +kernel
theorem dX4_readUnit_53 : decode cX4_readUnit 53 = .ok (.ireturn, 1) := by decide +kernel
theorem dX4_readUnit_54 : decode cX4_readUnit 54 = .ok (.aload_n 1, 1) := by decide +kernel
theorem dX4_readUnit_55 : decode cX4_readUnit 55 = .ok (.invokevirtual 35, 3) := by decide +kernel
theorem dX4_readUnit_58 : decode cX4_readUnit 58 = .ok (.istore 5, 2) := by decide +kernel
theorem dX4_readUnit_60 : decode cX4_readUnit 60 = .ok (.iload 5, 2) := by decide +kernel
theorem dX4_readUnit_62 : decode cX4_readUnit 62 = .ok (.invokestatic 43, 3) := by decide +kernel
theorem dX4_readUnit_65 : decode cX4_readUnit 65 = .ok (.ifCond .ne 5, 3) := by decide +kernel
theorem dX4_readUnit_68 : decode cX4_readUnit 68 = .ok (.iconst 0, 1) := by decide +kernel
theorem dX4_readUnit_69 : decode cX4_readUnit 69 = .ok (.ireturn, 1) := by decide +kernel
theorem dX4_readUnit_70 : decode cX4_readUnit 70 = .ok (.aload_n 1, 1) := by decide +kernel
theorem dX4_readUnit_71 : decode cX4_readUnit 71 = .ok (.dup, 1) := by decide +kernel
theorem dX4_readUnit_72 : decode cX4_readUnit 72 = .ok (.getfield 18, 3) := by decide +kernel
theorem dX4_readUnit_75 : decode cX4_readUnit 75 = .ok (.iconst 1, 1) := by decide +kernel
theorem dX4_readUnit_76 : decode cX4_readUnit 76 = .ok (.iadd, 1) := by decide +kernel
theorem dX4_readUnit_77 : decode cX4_readUnit 77 = .ok (.putfield 18, 3) := by decide +kernel
theorem dX4_readUnit_80 : decode cX4_readUnit 80 = .ok (.aload_n 0, 1) := by decide +kernel
theorem dX4_readUnit_81 : decode cX4_readUnit 81 = .ok (.aload_n 1, 1) := by decide +kernel
theorem dX4_readUnit_82 : decode cX4_readUnit 82 = .ok (.iconst 2, 1) := by decide +kernel
theorem dX4_readUnit_83 : decode cX4_readUnit 83 = .ok (.iload_n 2, 1) := by decide +kernel
theorem dX4_readUnit_84 : decode cX4_readUnit 84 = .ok (.iconst 0, 1) := by decide +kernel
theorem dX4_readUnit_85 : decode cX4_readUnit 85 = .ok (.invokevirtual 39, 3) := by decide +kernel
theorem dX4_readUnit_88 : decode cX4_readUnit 88 = .ok (.ifCond .ne 5, 3) := by decide +kernel
theorem dX4_readUnit_91 : decode cX4_readUnit 91 = .ok (.iconst 0, 1) := by decide +kernel
theorem dX4_readUnit_92 : decode cX4_readUnit 92 = .ok (.ireturn, 1) := by decide +kernel
theorem dX4_readUnit_93 : decode cX4_readUnit 93 = .ok (.aload_n 0, 1) := by decide +kernel
theorem dX4_readUnit_94 : decode cX4_readUnit 94 = .ok (.getfield 12, 3) := by decide +kernel
theorem dX4_readUnit_97 : decode cX4_readUnit 97 = .ok (.iload 5, 2) := by decide +kernel
theorem dX4_readUnit_99 : decode cX4_readUnit 99 = .ok (.iconst 0, 1) := by decide +kernel
theorem dX4_readUnit_100 : decode cX4_readUnit 100 = .ok (.invokevirtual 46, 3) := by decide +kernel
theorem dX4_readUnit_103 : decode cX4_readUnit 103 = .ok (.iconst 1, 1) := by decide +kernel
theorem dX4_readUnit_104 : decode cX4_readUnit 104 = .ok (.ireturn, 1) := by decide +kernel
def w_LR0 : List Cond := [Cond.code yX4_readNested cX4_readNested 5 (some .boolean), Cond.code yX4_readAtom cX4_readAtom 5 (some .boolean), Cond.code yX4_readChain cX4_readChain 9 (some .boolean), Cond.code yX4_readUnit cX4_readUnit 6 (some .boolean), Cond.fieldLink RX4 18 "HeadYear$Tape" "at" "I", Cond.methodLink RX4 39 yX4_readChain, Cond.instanceMethod yX4_readChain, Cond.selects RX4 yX4_readChain yX4_readChain, Cond.initialized RX4, Cond.methodLink RX4 31 yX8_take, Cond.instanceMethod yX8_take, Cond.selects RX8 yX8_take yX8_take, Cond.initialized RX8, Cond.methodLink RX4 54 yX4_readUnit, Cond.instanceMethod yX4_readUnit, Cond.selects RX4 yX4_readUnit yX4_readUnit, Cond.fieldLink RX4 12 "HeadYear$LawReader" "draft" "LHeadYear$Law;", Cond.methodLink RX4 46 yX3_add, Cond.instanceMethod yX3_add, Cond.selects RX3 yX3_add yX3_add, Cond.initialized RX3, Cond.methodLink RX4 35 yX8_next, Cond.instanceMethod yX8_next, Cond.selects RX8 yX8_next yX8_next, Cond.fieldLink RX4 70 "HeadYear$LawReader" "LETTERS" "[C", Cond.methodLink RX4 74 yX8_takeNumber, Cond.instanceMethod yX8_takeNumber, Cond.selects RX8 yX8_takeNumber yX8_takeNumber, Cond.fieldLink RX4 77 "HeadYear$Tape" "number" "I", Cond.methodLink RX4 66 yX4_readNested, Cond.instanceMethod yX4_readNested, Cond.selects RX4 yX4_readNested yX4_readNested, Cond.methodLink RX4 58 yX4_readAtom, Cond.instanceMethod yX4_readAtom, Cond.selects RX4 yX4_readAtom yX4_readAtom, Cond.methodLink RX4 62 yX4_chainOf, Cond.static yX4_chainOf, Cond.methodLink RX4 43 yX4_isComparison, Cond.static yX4_isComparison]
def w_LR : List Cond := w_LR0 ++ (u_ws RX8 TX8 4 ++ (u_ws RX4 TX4 1 ++ (w_X8_take ++ (w_X3_add ++ (w_X8_next ++ (w_X8_takeNumber ++ (w_X4_chainOf ++ (w_X4_isComparison ++ ([])))))))))
def w_X4_readNested : List Cond := Cond.code yX4_readNested cX4_readNested 5 (some .boolean) :: w_LR
def w_X4_readAtom : List Cond := Cond.code yX4_readAtom cX4_readAtom 5 (some .boolean) :: w_LR
def w_X4_readChain : List Cond := Cond.code yX4_readChain cX4_readChain 9 (some .boolean) :: w_LR
def w_X4_readUnit : List Cond := Cond.code yX4_readUnit cX4_readUnit 6 (some .boolean) :: w_LR
theorem in_X4_readNested_X8 : ∀ w ∈ u_ws RX8 TX8 4, w ∈ w_X4_readNested := fun _ h => List.mem_cons_of_mem _ (List.mem_append_right _ (List.mem_append_left _ h))
theorem in_X4_readNested_X4 : ∀ w ∈ u_ws RX4 TX4 1, w ∈ w_X4_readNested := fun _ h => List.mem_cons_of_mem _ (List.mem_append_right _ (List.mem_append_right _ (List.mem_append_left _ h)))
theorem gg_X4_readNested_X8_take : GoodIn w_X4_readNested w_X8_take := goodIn_sub (fun _ h => List.mem_cons_of_mem _ (List.mem_append_right _ (List.mem_append_right _ (List.mem_append_right _ (List.mem_append_left _ h))))) (by decide +kernel)
theorem gg_X4_readNested_X3_add : GoodIn w_X4_readNested w_X3_add := goodIn_sub (fun _ h => List.mem_cons_of_mem _ (List.mem_append_right _ (List.mem_append_right _ (List.mem_append_right _ (List.mem_append_right _ (List.mem_append_left _ h)))))) (by decide +kernel)
theorem gg_X4_readNested_X8_next : GoodIn w_X4_readNested w_X8_next := goodIn_sub (fun _ h => List.mem_cons_of_mem _ (List.mem_append_right _ (List.mem_append_right _ (List.mem_append_right _ (List.mem_append_right _ (List.mem_append_right _ (List.mem_append_left _ h))))))) (by decide +kernel)
theorem gg_X4_readNested_X8_takeNumber : GoodIn w_X4_readNested w_X8_takeNumber := goodIn_sub (fun _ h => List.mem_cons_of_mem _ (List.mem_append_right _ (List.mem_append_right _ (List.mem_append_right _ (List.mem_append_right _ (List.mem_append_right _ (List.mem_append_right _ (List.mem_append_left _ h)))))))) (by decide +kernel)
theorem gg_X4_readNested_X4_chainOf : GoodIn w_X4_readNested w_X4_chainOf := goodIn_sub (fun _ h => List.mem_cons_of_mem _ (List.mem_append_right _ (List.mem_append_right _ (List.mem_append_right _ (List.mem_append_right _ (List.mem_append_right _ (List.mem_append_right _ (List.mem_append_right _ (List.mem_append_left _ h))))))))) (by decide +kernel)
theorem gg_X4_readNested_X4_isComparison : GoodIn w_X4_readNested w_X4_isComparison := goodIn_sub (fun _ h => List.mem_cons_of_mem _ (List.mem_append_right _ (List.mem_append_right _ (List.mem_append_right _ (List.mem_append_right _ (List.mem_append_right _ (List.mem_append_right _ (List.mem_append_right _ (List.mem_append_right _ (List.mem_append_left _ h)))))))))) (by decide +kernel)
theorem gg_X4_readNested_X4_readNested : GoodIn w_X4_readNested w_X4_readNested := goodIn_sub (fun _ h => (List.mem_cons.mp h).elim (fun e => e ▸ List.mem_cons_of_mem _ (List.mem_append_left _ (List.mem_of_getElem? (i := 0) rfl))) (fun h => List.mem_cons_of_mem _ h)) (by decide +kernel)
theorem gg_X4_readNested_X4_readAtom : GoodIn w_X4_readNested w_X4_readAtom := goodIn_sub (fun _ h => (List.mem_cons.mp h).elim (fun e => e ▸ List.mem_cons_of_mem _ (List.mem_append_left _ (List.mem_of_getElem? (i := 1) rfl))) (fun h => List.mem_cons_of_mem _ h)) (by decide +kernel)
theorem gg_X4_readNested_X4_readChain : GoodIn w_X4_readNested w_X4_readChain := goodIn_sub (fun _ h => (List.mem_cons.mp h).elim (fun e => e ▸ List.mem_cons_of_mem _ (List.mem_append_left _ (List.mem_of_getElem? (i := 2) rfl))) (fun h => List.mem_cons_of_mem _ h)) (by decide +kernel)
theorem gg_X4_readNested_X4_readUnit : GoodIn w_X4_readNested w_X4_readUnit := goodIn_sub (fun _ h => (List.mem_cons.mp h).elim (fun e => e ▸ List.mem_cons_of_mem _ (List.mem_append_left _ (List.mem_of_getElem? (i := 3) rfl))) (fun h => List.mem_cons_of_mem _ h)) (by decide +kernel)
theorem in_X4_readAtom_X8 : ∀ w ∈ u_ws RX8 TX8 4, w ∈ w_X4_readAtom := fun _ h => List.mem_cons_of_mem _ (List.mem_append_right _ (List.mem_append_left _ h))
theorem in_X4_readAtom_X4 : ∀ w ∈ u_ws RX4 TX4 1, w ∈ w_X4_readAtom := fun _ h => List.mem_cons_of_mem _ (List.mem_append_right _ (List.mem_append_right _ (List.mem_append_left _ h)))
theorem gg_X4_readAtom_X8_take : GoodIn w_X4_readAtom w_X8_take := goodIn_sub (fun _ h => List.mem_cons_of_mem _ (List.mem_append_right _ (List.mem_append_right _ (List.mem_append_right _ (List.mem_append_left _ h))))) (by decide +kernel)
theorem gg_X4_readAtom_X3_add : GoodIn w_X4_readAtom w_X3_add := goodIn_sub (fun _ h => List.mem_cons_of_mem _ (List.mem_append_right _ (List.mem_append_right _ (List.mem_append_right _ (List.mem_append_right _ (List.mem_append_left _ h)))))) (by decide +kernel)
theorem gg_X4_readAtom_X8_next : GoodIn w_X4_readAtom w_X8_next := goodIn_sub (fun _ h => List.mem_cons_of_mem _ (List.mem_append_right _ (List.mem_append_right _ (List.mem_append_right _ (List.mem_append_right _ (List.mem_append_right _ (List.mem_append_left _ h))))))) (by decide +kernel)
theorem gg_X4_readAtom_X8_takeNumber : GoodIn w_X4_readAtom w_X8_takeNumber := goodIn_sub (fun _ h => List.mem_cons_of_mem _ (List.mem_append_right _ (List.mem_append_right _ (List.mem_append_right _ (List.mem_append_right _ (List.mem_append_right _ (List.mem_append_right _ (List.mem_append_left _ h)))))))) (by decide +kernel)
theorem gg_X4_readAtom_X4_chainOf : GoodIn w_X4_readAtom w_X4_chainOf := goodIn_sub (fun _ h => List.mem_cons_of_mem _ (List.mem_append_right _ (List.mem_append_right _ (List.mem_append_right _ (List.mem_append_right _ (List.mem_append_right _ (List.mem_append_right _ (List.mem_append_right _ (List.mem_append_left _ h))))))))) (by decide +kernel)
theorem gg_X4_readAtom_X4_isComparison : GoodIn w_X4_readAtom w_X4_isComparison := goodIn_sub (fun _ h => List.mem_cons_of_mem _ (List.mem_append_right _ (List.mem_append_right _ (List.mem_append_right _ (List.mem_append_right _ (List.mem_append_right _ (List.mem_append_right _ (List.mem_append_right _ (List.mem_append_right _ (List.mem_append_left _ h)))))))))) (by decide +kernel)
theorem gg_X4_readAtom_X4_readNested : GoodIn w_X4_readAtom w_X4_readNested := goodIn_sub (fun _ h => (List.mem_cons.mp h).elim (fun e => e ▸ List.mem_cons_of_mem _ (List.mem_append_left _ (List.mem_of_getElem? (i := 0) rfl))) (fun h => List.mem_cons_of_mem _ h)) (by decide +kernel)
theorem gg_X4_readAtom_X4_readAtom : GoodIn w_X4_readAtom w_X4_readAtom := goodIn_sub (fun _ h => (List.mem_cons.mp h).elim (fun e => e ▸ List.mem_cons_of_mem _ (List.mem_append_left _ (List.mem_of_getElem? (i := 1) rfl))) (fun h => List.mem_cons_of_mem _ h)) (by decide +kernel)
theorem gg_X4_readAtom_X4_readChain : GoodIn w_X4_readAtom w_X4_readChain := goodIn_sub (fun _ h => (List.mem_cons.mp h).elim (fun e => e ▸ List.mem_cons_of_mem _ (List.mem_append_left _ (List.mem_of_getElem? (i := 2) rfl))) (fun h => List.mem_cons_of_mem _ h)) (by decide +kernel)
theorem gg_X4_readAtom_X4_readUnit : GoodIn w_X4_readAtom w_X4_readUnit := goodIn_sub (fun _ h => (List.mem_cons.mp h).elim (fun e => e ▸ List.mem_cons_of_mem _ (List.mem_append_left _ (List.mem_of_getElem? (i := 3) rfl))) (fun h => List.mem_cons_of_mem _ h)) (by decide +kernel)
theorem in_X4_readChain_X8 : ∀ w ∈ u_ws RX8 TX8 4, w ∈ w_X4_readChain := fun _ h => List.mem_cons_of_mem _ (List.mem_append_right _ (List.mem_append_left _ h))
theorem in_X4_readChain_X4 : ∀ w ∈ u_ws RX4 TX4 1, w ∈ w_X4_readChain := fun _ h => List.mem_cons_of_mem _ (List.mem_append_right _ (List.mem_append_right _ (List.mem_append_left _ h)))
theorem gg_X4_readChain_X8_take : GoodIn w_X4_readChain w_X8_take := goodIn_sub (fun _ h => List.mem_cons_of_mem _ (List.mem_append_right _ (List.mem_append_right _ (List.mem_append_right _ (List.mem_append_left _ h))))) (by decide +kernel)
theorem gg_X4_readChain_X3_add : GoodIn w_X4_readChain w_X3_add := goodIn_sub (fun _ h => List.mem_cons_of_mem _ (List.mem_append_right _ (List.mem_append_right _ (List.mem_append_right _ (List.mem_append_right _ (List.mem_append_left _ h)))))) (by decide +kernel)
theorem gg_X4_readChain_X8_next : GoodIn w_X4_readChain w_X8_next := goodIn_sub (fun _ h => List.mem_cons_of_mem _ (List.mem_append_right _ (List.mem_append_right _ (List.mem_append_right _ (List.mem_append_right _ (List.mem_append_right _ (List.mem_append_left _ h))))))) (by decide +kernel)
theorem gg_X4_readChain_X8_takeNumber : GoodIn w_X4_readChain w_X8_takeNumber := goodIn_sub (fun _ h => List.mem_cons_of_mem _ (List.mem_append_right _ (List.mem_append_right _ (List.mem_append_right _ (List.mem_append_right _ (List.mem_append_right _ (List.mem_append_right _ (List.mem_append_left _ h)))))))) (by decide +kernel)
theorem gg_X4_readChain_X4_chainOf : GoodIn w_X4_readChain w_X4_chainOf := goodIn_sub (fun _ h => List.mem_cons_of_mem _ (List.mem_append_right _ (List.mem_append_right _ (List.mem_append_right _ (List.mem_append_right _ (List.mem_append_right _ (List.mem_append_right _ (List.mem_append_right _ (List.mem_append_left _ h))))))))) (by decide +kernel)
theorem gg_X4_readChain_X4_isComparison : GoodIn w_X4_readChain w_X4_isComparison := goodIn_sub (fun _ h => List.mem_cons_of_mem _ (List.mem_append_right _ (List.mem_append_right _ (List.mem_append_right _ (List.mem_append_right _ (List.mem_append_right _ (List.mem_append_right _ (List.mem_append_right _ (List.mem_append_right _ (List.mem_append_left _ h)))))))))) (by decide +kernel)
theorem gg_X4_readChain_X4_readNested : GoodIn w_X4_readChain w_X4_readNested := goodIn_sub (fun _ h => (List.mem_cons.mp h).elim (fun e => e ▸ List.mem_cons_of_mem _ (List.mem_append_left _ (List.mem_of_getElem? (i := 0) rfl))) (fun h => List.mem_cons_of_mem _ h)) (by decide +kernel)
theorem gg_X4_readChain_X4_readAtom : GoodIn w_X4_readChain w_X4_readAtom := goodIn_sub (fun _ h => (List.mem_cons.mp h).elim (fun e => e ▸ List.mem_cons_of_mem _ (List.mem_append_left _ (List.mem_of_getElem? (i := 1) rfl))) (fun h => List.mem_cons_of_mem _ h)) (by decide +kernel)
theorem gg_X4_readChain_X4_readChain : GoodIn w_X4_readChain w_X4_readChain := goodIn_sub (fun _ h => (List.mem_cons.mp h).elim (fun e => e ▸ List.mem_cons_of_mem _ (List.mem_append_left _ (List.mem_of_getElem? (i := 2) rfl))) (fun h => List.mem_cons_of_mem _ h)) (by decide +kernel)
theorem gg_X4_readChain_X4_readUnit : GoodIn w_X4_readChain w_X4_readUnit := goodIn_sub (fun _ h => (List.mem_cons.mp h).elim (fun e => e ▸ List.mem_cons_of_mem _ (List.mem_append_left _ (List.mem_of_getElem? (i := 3) rfl))) (fun h => List.mem_cons_of_mem _ h)) (by decide +kernel)
theorem in_X4_readUnit_X8 : ∀ w ∈ u_ws RX8 TX8 4, w ∈ w_X4_readUnit := fun _ h => List.mem_cons_of_mem _ (List.mem_append_right _ (List.mem_append_left _ h))
theorem in_X4_readUnit_X4 : ∀ w ∈ u_ws RX4 TX4 1, w ∈ w_X4_readUnit := fun _ h => List.mem_cons_of_mem _ (List.mem_append_right _ (List.mem_append_right _ (List.mem_append_left _ h)))
theorem gg_X4_readUnit_X8_take : GoodIn w_X4_readUnit w_X8_take := goodIn_sub (fun _ h => List.mem_cons_of_mem _ (List.mem_append_right _ (List.mem_append_right _ (List.mem_append_right _ (List.mem_append_left _ h))))) (by decide +kernel)
theorem gg_X4_readUnit_X3_add : GoodIn w_X4_readUnit w_X3_add := goodIn_sub (fun _ h => List.mem_cons_of_mem _ (List.mem_append_right _ (List.mem_append_right _ (List.mem_append_right _ (List.mem_append_right _ (List.mem_append_left _ h)))))) (by decide +kernel)
theorem gg_X4_readUnit_X8_next : GoodIn w_X4_readUnit w_X8_next := goodIn_sub (fun _ h => List.mem_cons_of_mem _ (List.mem_append_right _ (List.mem_append_right _ (List.mem_append_right _ (List.mem_append_right _ (List.mem_append_right _ (List.mem_append_left _ h))))))) (by decide +kernel)
theorem gg_X4_readUnit_X8_takeNumber : GoodIn w_X4_readUnit w_X8_takeNumber := goodIn_sub (fun _ h => List.mem_cons_of_mem _ (List.mem_append_right _ (List.mem_append_right _ (List.mem_append_right _ (List.mem_append_right _ (List.mem_append_right _ (List.mem_append_right _ (List.mem_append_left _ h)))))))) (by decide +kernel)
theorem gg_X4_readUnit_X4_chainOf : GoodIn w_X4_readUnit w_X4_chainOf := goodIn_sub (fun _ h => List.mem_cons_of_mem _ (List.mem_append_right _ (List.mem_append_right _ (List.mem_append_right _ (List.mem_append_right _ (List.mem_append_right _ (List.mem_append_right _ (List.mem_append_right _ (List.mem_append_left _ h))))))))) (by decide +kernel)
theorem gg_X4_readUnit_X4_isComparison : GoodIn w_X4_readUnit w_X4_isComparison := goodIn_sub (fun _ h => List.mem_cons_of_mem _ (List.mem_append_right _ (List.mem_append_right _ (List.mem_append_right _ (List.mem_append_right _ (List.mem_append_right _ (List.mem_append_right _ (List.mem_append_right _ (List.mem_append_right _ (List.mem_append_left _ h)))))))))) (by decide +kernel)
theorem gg_X4_readUnit_X4_readNested : GoodIn w_X4_readUnit w_X4_readNested := goodIn_sub (fun _ h => (List.mem_cons.mp h).elim (fun e => e ▸ List.mem_cons_of_mem _ (List.mem_append_left _ (List.mem_of_getElem? (i := 0) rfl))) (fun h => List.mem_cons_of_mem _ h)) (by decide +kernel)
theorem gg_X4_readUnit_X4_readAtom : GoodIn w_X4_readUnit w_X4_readAtom := goodIn_sub (fun _ h => (List.mem_cons.mp h).elim (fun e => e ▸ List.mem_cons_of_mem _ (List.mem_append_left _ (List.mem_of_getElem? (i := 1) rfl))) (fun h => List.mem_cons_of_mem _ h)) (by decide +kernel)
theorem gg_X4_readUnit_X4_readChain : GoodIn w_X4_readUnit w_X4_readChain := goodIn_sub (fun _ h => (List.mem_cons.mp h).elim (fun e => e ▸ List.mem_cons_of_mem _ (List.mem_append_left _ (List.mem_of_getElem? (i := 2) rfl))) (fun h => List.mem_cons_of_mem _ h)) (by decide +kernel)
theorem gg_X4_readUnit_X4_readUnit : GoodIn w_X4_readUnit w_X4_readUnit := goodIn_sub (fun _ h => (List.mem_cons.mp h).elim (fun e => e ▸ List.mem_cons_of_mem _ (List.mem_append_left _ (List.mem_of_getElem? (i := 3) rfl))) (fun h => List.mem_cons_of_mem _ h)) (by decide +kernel)
theorem g_X4_readAtom_X3_add_46 : GoodIn w_X4_readAtom (wsV RX4 46 RX3 yX3_add w_X3_add) := goodIn_app (goodIn_of _ (by decide +kernel)) gg_X4_readAtom_X3_add
theorem g_X4_readAtom_X4_readNested_66 : GoodIn w_X4_readAtom (wsV RX4 66 RX4 yX4_readNested w_X4_readNested) := goodIn_app (goodIn_of _ (by decide +kernel)) gg_X4_readAtom_X4_readNested
theorem g_X4_readAtom_X8_next_35 : GoodIn w_X4_readAtom (wsV RX4 35 RX8 yX8_next w_X8_next) := goodIn_app (goodIn_of _ (by decide +kernel)) gg_X4_readAtom_X8_next
theorem g_X4_readAtom_X8_takeNumber_74 : GoodIn w_X4_readAtom (wsV RX4 74 RX8 yX8_takeNumber w_X8_takeNumber) := goodIn_app (goodIn_of _ (by decide +kernel)) gg_X4_readAtom_X8_takeNumber
theorem g_X4_readChain_X3_add_46 : GoodIn w_X4_readChain (wsV RX4 46 RX3 yX3_add w_X3_add) := goodIn_app (goodIn_of _ (by decide +kernel)) gg_X4_readChain_X3_add
theorem g_X4_readChain_X4_chainOf_62 : GoodIn w_X4_readChain (va_wsS RX4 62 yX4_chainOf w_X4_chainOf) := goodIn_app (goodIn_of _ (by decide +kernel)) gg_X4_readChain_X4_chainOf
theorem g_X4_readChain_X4_readAtom_58 : GoodIn w_X4_readChain (wsV RX4 58 RX4 yX4_readAtom w_X4_readAtom) := goodIn_app (goodIn_of _ (by decide +kernel)) gg_X4_readChain_X4_readAtom
theorem g_X4_readChain_X4_readChain_39 : GoodIn w_X4_readChain (wsV RX4 39 RX4 yX4_readChain w_X4_readChain) := goodIn_app (goodIn_of _ (by decide +kernel)) gg_X4_readChain_X4_readChain
theorem g_X4_readChain_X4_readUnit_54 : GoodIn w_X4_readChain (wsV RX4 54 RX4 yX4_readUnit w_X4_readUnit) := goodIn_app (goodIn_of _ (by decide +kernel)) gg_X4_readChain_X4_readUnit
theorem g_X4_readChain_X8_next_35 : GoodIn w_X4_readChain (wsV RX4 35 RX8 yX8_next w_X8_next) := goodIn_app (goodIn_of _ (by decide +kernel)) gg_X4_readChain_X8_next
theorem g_X4_readNested_X3_add_46 : GoodIn w_X4_readNested (wsV RX4 46 RX3 yX3_add w_X3_add) := goodIn_app (goodIn_of _ (by decide +kernel)) gg_X4_readNested_X3_add
theorem g_X4_readNested_X4_readChain_39 : GoodIn w_X4_readNested (wsV RX4 39 RX4 yX4_readChain w_X4_readChain) := goodIn_app (goodIn_of _ (by decide +kernel)) gg_X4_readNested_X4_readChain
theorem g_X4_readNested_X4_readUnit_54 : GoodIn w_X4_readNested (wsV RX4 54 RX4 yX4_readUnit w_X4_readUnit) := goodIn_app (goodIn_of _ (by decide +kernel)) gg_X4_readNested_X4_readUnit
theorem g_X4_readNested_X8_take_31 : GoodIn w_X4_readNested (wsV RX4 31 RX8 yX8_take w_X8_take) := goodIn_app (goodIn_of _ (by decide +kernel)) gg_X4_readNested_X8_take
theorem g_X4_readUnit_X3_add_46 : GoodIn w_X4_readUnit (wsV RX4 46 RX3 yX3_add w_X3_add) := goodIn_app (goodIn_of _ (by decide +kernel)) gg_X4_readUnit_X3_add
theorem g_X4_readUnit_X4_isComparison_43 : GoodIn w_X4_readUnit (va_wsS RX4 43 yX4_isComparison w_X4_isComparison) := goodIn_app (goodIn_of _ (by decide +kernel)) gg_X4_readUnit_X4_isComparison
theorem g_X4_readUnit_X4_readChain_39 : GoodIn w_X4_readUnit (wsV RX4 39 RX4 yX4_readChain w_X4_readChain) := goodIn_app (goodIn_of _ (by decide +kernel)) gg_X4_readUnit_X4_readChain
theorem g_X4_readUnit_X4_readNested_66 : GoodIn w_X4_readUnit (wsV RX4 66 RX4 yX4_readNested w_X4_readNested) := goodIn_app (goodIn_of _ (by decide +kernel)) gg_X4_readUnit_X4_readNested
theorem g_X4_readUnit_X8_next_35 : GoodIn w_X4_readUnit (wsV RX4 35 RX8 yX8_next w_X8_next) := goodIn_app (goodIn_of _ (by decide +kernel)) gg_X4_readUnit_X8_next

def P_nested (l : Launch) (E : py_E) (G : wf_G) (wb : Int) (fr lo : Nat) : Prop := ∀ (L : List Nat) (f : py_F) (sz : Nat) (h : Nat) (t : Nat) (a : Int32) (i : Int32), WF E G L f → G.1 h = 5 → G.1 t = 9 → (wb ≤ i.toInt ∧ i.toInt ≤ 6) → (tp_a f t < tp_l f t) → Met l yX4_readNested w_X4_readNested ({ frames := fr, cells := 0, slots := 0, locals := lo }) (py_Pc E [.ref h, .ref t, .int a, .int i] L f sz) (py_Qi E L f sz (fun r L1 f1 => (0 ≤ r.toInt ∧ r.toInt ≤ 1) ∧ WF E G L1 f1 ∧ RP E G f f1 ∧ KP G [9, 4, 20] false f f1)) 0 0 (va_A (va_pl L f) sz)
def P_atom (l : Launch) (E : py_E) (G : wf_G) (wb : Int) (fr lo : Nat) : Prop := ∀ (L : List Nat) (f : py_F) (sz : Nat) (h : Nat) (t : Nat) (i : Int32), WF E G L f → G.1 h = 5 → G.1 t = 9 → (wb ≤ i.toInt ∧ i.toInt ≤ 6) → Met l yX4_readAtom w_X4_readAtom ({ frames := fr, cells := 0, slots := 0, locals := lo }) (py_Pc E [.ref h, .ref t, .int i] L f sz) (py_Qi E L f sz (fun r L1 f1 => (0 ≤ r.toInt ∧ r.toInt ≤ 1) ∧ WF E G L1 f1 ∧ RP E G f f1 ∧ KP G [9, 4, 20] false f f1)) 0 0 (va_A (va_pl L f) sz)
def P_chain3 (l : Launch) (E : py_E) (G : wf_G) (wb : Int) (fr lo : Nat) : Prop := ∀ (L : List Nat) (f : py_F) (sz : Nat) (h : Nat) (t : Nat) (i : Int32) (b : Int32), WF E G L f → G.1 h = 5 → G.1 t = 9 → (0 ≤ b.toInt ∧ b.toInt ≤ 1) → (wb ≤ i.toInt ∧ i.toInt ≤ 6) → Met l yX4_readChain w_X4_readChain ({ frames := fr, cells := 0, slots := 0, locals := lo }) (py_Pc E [.ref h, .ref t, .int 3, .int i, .int b] L f sz) (py_Qi E L f sz (fun r L1 f1 => (0 ≤ r.toInt ∧ r.toInt ≤ 1) ∧ WF E G L1 f1 ∧ RP E G f f1 ∧ KP G [9, 4, 20] false f f1)) 0 0 (va_A (va_pl L f) sz)
def P_chain2 (l : Launch) (E : py_E) (G : wf_G) (wb : Int) (fr lo : Nat) : Prop := ∀ (L : List Nat) (f : py_F) (sz : Nat) (h : Nat) (t : Nat) (i : Int32) (b : Int32), WF E G L f → G.1 h = 5 → G.1 t = 9 → (0 ≤ b.toInt ∧ b.toInt ≤ 1) → (wb ≤ i.toInt ∧ i.toInt ≤ 6) → Met l yX4_readChain w_X4_readChain ({ frames := fr, cells := 0, slots := 0, locals := lo }) (py_Pc E [.ref h, .ref t, .int 2, .int i, .int b] L f sz) (py_Qi E L f sz (fun r L1 f1 => (0 ≤ r.toInt ∧ r.toInt ≤ 1) ∧ WF E G L1 f1 ∧ RP E G f f1 ∧ KP G [9, 4, 20] false f f1)) 0 0 (va_A (va_pl L f) sz)
def P_unit (l : Launch) (E : py_E) (G : wf_G) (wb : Int) (fr lo : Nat) : Prop := ∀ (L : List Nat) (f : py_F) (sz : Nat) (h : Nat) (t : Nat) (i : Int32) (b : Int32), WF E G L f → G.1 h = 5 → G.1 t = 9 → (0 ≤ b.toInt ∧ b.toInt ≤ 1) → (wb ≤ i.toInt ∧ i.toInt ≤ 6) → Met l yX4_readUnit w_X4_readUnit ({ frames := fr, cells := 0, slots := 0, locals := lo }) (py_Pc E [.ref h, .ref t, .int i, .int b] L f sz) (py_Qi E L f sz (fun r L1 f1 => (0 ≤ r.toInt ∧ r.toInt ≤ 1) ∧ WF E G L1 f1 ∧ RP E G f f1 ∧ KP G [9, 4, 20] false f f1)) 0 0 (va_A (va_pl L f) sz)
def P_chain1 (l : Launch) (E : py_E) (G : wf_G) (wb : Int) (fr lo : Nat) : Prop := ∀ (L : List Nat) (f : py_F) (sz : Nat) (h : Nat) (t : Nat) (i : Int32) (b : Int32), WF E G L f → G.1 h = 5 → G.1 t = 9 → (0 ≤ b.toInt ∧ b.toInt ≤ 1) → (wb ≤ i.toInt ∧ i.toInt ≤ 6) → Met l yX4_readChain w_X4_readChain ({ frames := fr, cells := 0, slots := 0, locals := lo }) (py_Pc E [.ref h, .ref t, .int 1, .int i, .int b] L f sz) (py_Qi E L f sz (fun r L1 f1 => (0 ≤ r.toInt ∧ r.toInt ≤ 1) ∧ WF E G L1 f1 ∧ RP E G f f1 ∧ KP G [9, 4, 20] false f f1)) 0 0 (va_A (va_pl L f) sz)
def P_chain0 (l : Launch) (E : py_E) (G : wf_G) (wb : Int) (fr lo : Nat) : Prop := ∀ (L : List Nat) (f : py_F) (sz : Nat) (h : Nat) (t : Nat) (i : Int32) (b : Int32), WF E G L f → G.1 h = 5 → G.1 t = 9 → (0 ≤ b.toInt ∧ b.toInt ≤ 1) → (wb ≤ i.toInt ∧ i.toInt ≤ 6) → Met l yX4_readChain w_X4_readChain ({ frames := fr, cells := 0, slots := 0, locals := lo }) (py_Pc E [.ref h, .ref t, .int 0, .int i, .int b] L f sz) (py_Qi E L f sz (fun r L1 f1 => (0 ≤ r.toInt ∧ r.toInt ≤ 1) ∧ WF E G L1 f1 ∧ RP E G f f1 ∧ KP G [9, 4, 20] false f f1)) 0 0 (va_A (va_pl L f) sz)
set_option maxHeartbeats 4000000 in
set_option maxRecDepth 100000 in
theorem k_nested (l : Launch) (E : py_E) (G : wf_G) (hG : GT G) (wb : Int) (hwb : 0 ≤ wb) (fr lo : Nat) (hfr : 10 ≤ fr) (hlo : 300 ≤ lo) (f_unit l_unit : Nat) (x_unit : f_unit ≤ fr) (z_unit : l_unit ≤ lo) (ih_unit : P_unit l E G (wb + 1) f_unit l_unit) (f_chain0 l_chain0 : Nat) (x_chain0 : f_chain0 ≤ fr) (z_chain0 : l_chain0 ≤ lo) (ih_chain0 : P_chain0 l E G (wb + 1) f_chain0 l_chain0) (f_chain2 l_chain2 : Nat) (x_chain2 : f_chain2 ≤ fr) (z_chain2 : l_chain2 ≤ lo) (ih_chain2 : P_chain2 l E G (wb + 1) f_chain2 l_chain2) : P_nested l E G wb (fr + 1) (lo + 60) := by
  intro L f sz h t a i hWF Th Tt hp0 hp1
  refine Met.ofW (cc := cX4_readNested) (maxL := 5) (ret := (some .boolean)) (by decide) rfl ?_
  intro p e s m args below meth c s₁ B hml hv
  obtain ⟨rfl, rfl, hw⟩ := py_start hv
  have G0 : CallFix p m c cX4_readNested 5 s _ w_X4_readNested RX4 := ⟨B.exec, B.bytes, hml, findClass_of_methodNamed B.named, atoms_spec (ws := w_X4_readNested) B.pre⟩
  have hr := B.returns
  have hlk := B.notSynchronized
  have kcm1 : (-1 : Int32).toInt = -1 := rfl
  have kc0 : (0 : Int32).toInt = 0 := rfl
  have kc1 : (1 : Int32).toInt = 1 := rfl
  have kc2 : (2 : Int32).toInt = 2 := rfl
  have kc6 : (6 : Int32).toInt = 6 := rfl
  have kc33 : (33 : Int32).toInt = 33 := rfl
  have kc40 : (40 : Int32).toInt = 40 := rfl
  have kc41 : (41 : Int32).toInt = 41 := rfl
  have kc93 : (93 : Int32).toInt = 93 := rfl
  have hl := lv_entry ([.ref h, .ref t, .int a, .int i]) (n := 5) (Nat.le_of_ble_eq_true rfl)
  rw [lg_entry_eq]
  generalize (lg_sl ([.ref h, .ref t, .int a, .int i]) ++ List.replicate (5 - (lg_sl ([.ref h, .ref t, .int a, .int i])).length) Slot.unset).toArray = ls at hl ⊢
  have hl : lv_has ls 5 [(0, .ref h), (1, .ref t), (2, .int a), (3, .int i)] := hl
  have hRP : RP E G f f := RP.refl
  have hKP : KP G [9, 4, 20] false f f := KP.refl
  refine lv_iload_n G0.1 G0.2.1 dX4_readNested_0 rfl (lv_at hl 3 rfl) ?_
  refine lv_bipush (v := 6) G0.1 G0.2.1 dX4_readNested_1 (by decide) ?_
  refine lv_icmp_lt (tgt := 8) G0.1 G0.2.1 dX4_readNested_3 (by decide) (fun c_1 => ?_) (fun c_1 => ?_)
  · skip
    have tc_1 := ti_lt c_1
    refine lv_aload_n G0.1 G0.2.1 dX4_readNested_8 rfl (lv_at hl 1 rfl) ?_
    refine lv_dup G0.1 G0.2.1 dX4_readNested_9 rfl ?_
    have t_2 := wt_8 hG Tt
    obtain ⟨v_3, v_4, v_5, hr_8, b_6, b_7⟩ := wg_8 hWF Tt
    have bv_5 := wf_free v_5
    have tq_9 := tp_eq hr_8
    refine py_get (C := RX8) (T := TX8) (N := 4) (k := 2) (v := .int v_4) G0 hw in_X4_readNested_X8 rfl hr_8 (by decide) (by decide +kernel) rfl dX4_readNested_10 ?_
    refine lv_iconst (v := 1) G0.1 G0.2.1 dX4_readNested_13 (by decide) ?_
    refine lv_iadd G0.1 G0.2.1 dX4_readNested_14 ?_
    refine lv_topi (fun x_10 ex_10 => ?_)
    first | have tx_10 := ti_add ex_10 (by omega) (by omega) | skip
    refine py_put (C := RX8) (T := TX8) (N := 4) (k := 2) (v := .int x_10) (fs' := [.ref (G.2 t 0), .int v_3, .int x_10, .int v_5]) (ty0 := tyX8) G0 hw tyX8_ok nmX8 in_X4_readNested_X8 rfl hr_8 (by decide) (by decide +kernel) rfl rfl rfl rfl (Nat.le_of_ble_eq_true rfl) rfl dX4_readNested_15 (fun f_11 H_12 locs h_13 x_14 hw => ?_)
    have hKP := hKP.upd hWF x_14 Tt (Or.inl (by decide))
    have hRP := hRP.trans (rp_upd hG hWF x_14 hr_8.2 h_13.2 (rp_code hG Tt (by decide)) rfl)
    have hWF := wf_upd hWF h_13 x_14 (by rw [Tt]; exact ⟨v_3, x_10, v_5, rfl, ⟨by omega, by omega⟩, ⟨by omega, by omega⟩⟩)
    have tq_15 := tp_eq h_13
    refine lv_iload_n G0.1 G0.2.1 dX4_readNested_18 rfl (lv_at hl 2 rfl) ?_
    refine lv_bipush (v := 33) G0.1 G0.2.1 dX4_readNested_19 (by decide) ?_
    refine lv_icmp_ne (tgt := 48) G0.1 G0.2.1 dX4_readNested_21 (by decide) (fun c_16 => ?_) (fun c_16 => ?_)
    · skip
      have tc_16 := ti_ne c_16
      refine lv_iload_n G0.1 G0.2.1 dX4_readNested_48 rfl (lv_at hl 2 rfl) ?_
      refine lv_bipush (v := 40) G0.1 G0.2.1 dX4_readNested_49 (by decide) ?_
      refine lv_icmp_ne (tgt := 82) G0.1 G0.2.1 dX4_readNested_51 (by decide) (fun c_17 => ?_) (fun c_17 => ?_)
      · skip
        have tc_17 := ti_ne c_17
        refine lv_aload_n G0.1 G0.2.1 dX4_readNested_82 rfl (lv_at hl 0 rfl) ?_
        refine lv_aload_n G0.1 G0.2.1 dX4_readNested_83 rfl (lv_at hl 1 rfl) ?_
        refine lv_iconst (v := 2) G0.1 G0.2.1 dX4_readNested_84 (by decide) ?_
        refine lv_iload_n G0.1 G0.2.1 dX4_readNested_85 rfl (lv_at hl 3 rfl) ?_
        refine lv_iconst (v := 1) G0.1 G0.2.1 dX4_readNested_86 (by decide) ?_
        refine lv_iadd G0.1 G0.2.1 dX4_readNested_87 ?_
        refine lv_topi (fun x_18 ex_18 => ?_)
        first | have tx_18 := ti_add ex_18 (by omega) (by omega) | skip
        refine lv_iconst (v := 0) G0.1 G0.2.1 dX4_readNested_88 (by decide) ?_
        obtain ⟨r_19, hr_21, ty_20⟩ := wg_4 hWF Th
        refine py_calli hw (va_runV (As := [.ref t, .int 2, .int x_18, .int 0]) (rest := []) G0 (ih_chain2 L f_11 H_12.size h t x_18 0 hWF Th Tt ⟨by omega, by omega⟩ (show (wb + 1) ≤ x_18.toInt ∧ x_18.toInt ≤ 6 by omega)) (cwV 4 G0.2.2.2.2 g_X4_readNested_X4_readChain_39 rfl rfl rfl (by decide +kernel) ⟨(show f_chain2 + 1 ≤ fr + 1 by omega), (show 8 + (9 + 11) + l_chain2 ≤ lo + 60 by omega)⟩) (py_preV hw (C := RX4) (T := TX4) (N := 1) rfl hr_21) rfl rfl hl.1 rfl (lv_room (Nat.le_of_ble_eq_true rfl)) dX4_readNested_89 ⟨(Nat.le_of_ble_eq_true rfl), (Nat.le_of_ble_eq_true rfl)⟩) (fun r_26 L_22 f_23 H_24 locs hp_25 hw => ?_)
        obtain ⟨b_27, hWF, hq_28, kp_29⟩ := hp_25
        have hRP := hRP.trans hq_28
        have hKP := hKP.trans kp_29 (by decide) (by decide)
        have hr_21 := kp_at kp_29 hWF Th (by decide) (by decide) (by decide) hr_21
        have jn_109 : ∀ (v_30 : Int32) (L_j109 : List Nat) (f_j109 : py_F) (H_j109 : Heap) (locs : List Loc) (ls : Array Slot), (0 ≤ v_30.toInt ∧ v_30.toInt ≤ 1) → WF E G L_j109 f_j109 → RP E G f f_j109 → KP G [9, 4, 20] false f f_j109 → py_W E (va_A (va_pl L f) s.heap.size) s L_j109 f_j109 H_j109 locs → lv_has ls 5 [(0, .ref h), (1, .ref t), (2, .int a), (3, .int i)] → W p l e (headSpec w_X4_readNested ({ frames := fr + 1, cells := 0, slots := 0, locals := lo + 60 })).room s m ([.ref h, .ref t, .int a, .int i] : List Value).toArray below meth c H_j109 locs 0 0 (MQ below (py_Qi E L f s.heap.size (fun r L1 f1 => (0 ≤ r.toInt ∧ r.toInt ≤ 1) ∧ WF E G L1 f1 ∧ RP E G f f1 ∧ KP G [9, 4, 20] false f f1)) ([.ref h, .ref t, .int a, .int i] : List Value).toArray s 0 0 (va_A (va_pl L f) s.heap.size)) (F0 m 109 ls [.int v_30]) := by
          intro v_30 L_j109 f_j109 H_j109 locs ls bv_30 hWF hRP hKP hw hl
          exact py_iret G0 hr (ti_bool (by omega) (by omega)) hlk hw ⟨⟨by omega, by omega⟩, hWF, hRP, hKP⟩ dX4_readNested_109
        refine lv_if_eq (tgt := 108) G0.1 G0.2.1 dX4_readNested_92 (by decide) (fun c_31 => ?_) (fun c_31 => ?_)
        · skip
          have tc_31 := ti_eq c_31
          refine lv_iconst (v := 0) G0.1 G0.2.1 dX4_readNested_108 (by decide) ?_
          exact jn_109 0 L_22 f_23 _ _ ls ⟨by omega, by omega⟩ hWF hRP hKP hw (lv_sub hl [0, 1, 2, 3] rfl)
        · skip
          have tc_31 := ti_ne c_31
          refine lv_aload_n G0.1 G0.2.1 dX4_readNested_95 rfl (lv_at hl 1 rfl) ?_
          refine lv_bipush (v := 93) G0.1 G0.2.1 dX4_readNested_96 (by decide) ?_
          obtain ⟨v_32, v_33, v_34, hr_37, b_35, b_36⟩ := wg_8 hWF Tt
          have bv_34 := wf_free v_34
          have tq_38 := tp_eq hr_37
          refine py_calli hw (va_runV (As := [.int 93]) (rest := []) G0 (c_X8_take l E G L_22 f_23 H_24.size t 93 hG hWF Tt ⟨by omega, by omega⟩) (cwV 1 G0.2.2.2.2 g_X4_readNested_X8_take_31 rfl rfl rfl (by decide +kernel) ⟨(show 1 + 1 ≤ fr + 1 by omega), (show 8 + (2 + 11) + 20 ≤ lo + 60 by omega)⟩) (py_preV hw (C := RX8) (T := TX8) (N := 4) rfl hr_37) rfl rfl hl.1 rfl (lv_room (Nat.le_of_ble_eq_true rfl)) dX4_readNested_98 ⟨(Nat.le_of_ble_eq_true rfl), (Nat.le_of_ble_eq_true rfl)⟩) (fun r_43 L_39 f_40 H_41 locs hp_42 hw => ?_)
          obtain ⟨b_44, hWF, hq_45, kp_46⟩ := hp_42
          have hRP := hRP.trans hq_45
          have hKP := hKP.trans kp_46 (by decide) (by decide)
          have hr_21 := kp_at kp_46 hWF Th (by decide) (by decide) (by decide) hr_21
          refine lv_if_eq (tgt := 108) G0.1 G0.2.1 dX4_readNested_101 (by decide) (fun c_47 => ?_) (fun c_47 => ?_)
          · skip
            have tc_47 := ti_eq c_47
            refine lv_iconst (v := 0) G0.1 G0.2.1 dX4_readNested_108 (by decide) ?_
            exact jn_109 0 L_39 f_40 _ _ ls ⟨by omega, by omega⟩ hWF hRP hKP hw (lv_sub hl [0, 1, 2, 3] rfl)
          · skip
            have tc_47 := ti_ne c_47
            refine lv_iconst (v := 1) G0.1 G0.2.1 dX4_readNested_104 (by decide) ?_
            refine lv_goto (tgt := 109) G0.1 G0.2.1 dX4_readNested_105 (by decide) ?_
            exact jn_109 1 L_39 f_40 _ _ ls ⟨by omega, by omega⟩ hWF hRP hKP hw (lv_sub hl [0, 1, 2, 3] rfl)
      · skip
        have tc_17 := ti_eq c_17
        refine lv_aload_n G0.1 G0.2.1 dX4_readNested_54 rfl (lv_at hl 0 rfl) ?_
        refine lv_aload_n G0.1 G0.2.1 dX4_readNested_55 rfl (lv_at hl 1 rfl) ?_
        refine lv_iconst (v := 0) G0.1 G0.2.1 dX4_readNested_56 (by decide) ?_
        refine lv_iload_n G0.1 G0.2.1 dX4_readNested_57 rfl (lv_at hl 3 rfl) ?_
        refine lv_iconst (v := 1) G0.1 G0.2.1 dX4_readNested_58 (by decide) ?_
        refine lv_iadd G0.1 G0.2.1 dX4_readNested_59 ?_
        refine lv_topi (fun x_48 ex_48 => ?_)
        first | have tx_48 := ti_add ex_48 (by omega) (by omega) | skip
        refine lv_iconst (v := 0) G0.1 G0.2.1 dX4_readNested_60 (by decide) ?_
        obtain ⟨r_49, hr_51, ty_50⟩ := wg_4 hWF Th
        refine py_calli hw (va_runV (As := [.ref t, .int 0, .int x_48, .int 0]) (rest := []) G0 (ih_chain0 L f_11 H_12.size h t x_48 0 hWF Th Tt ⟨by omega, by omega⟩ (show (wb + 1) ≤ x_48.toInt ∧ x_48.toInt ≤ 6 by omega)) (cwV 4 G0.2.2.2.2 g_X4_readNested_X4_readChain_39 rfl rfl rfl (by decide +kernel) ⟨(show f_chain0 + 1 ≤ fr + 1 by omega), (show 8 + (9 + 11) + l_chain0 ≤ lo + 60 by omega)⟩) (py_preV hw (C := RX4) (T := TX4) (N := 1) rfl hr_51) rfl rfl hl.1 rfl (lv_room (Nat.le_of_ble_eq_true rfl)) dX4_readNested_61 ⟨(Nat.le_of_ble_eq_true rfl), (Nat.le_of_ble_eq_true rfl)⟩) (fun r_56 L_52 f_53 H_54 locs hp_55 hw => ?_)
        obtain ⟨b_57, hWF, hq_58, kp_59⟩ := hp_55
        have hRP := hRP.trans hq_58
        have hKP := hKP.trans kp_59 (by decide) (by decide)
        have hr_51 := kp_at kp_59 hWF Th (by decide) (by decide) (by decide) hr_51
        have jn_81 : ∀ (v_60 : Int32) (L_j81 : List Nat) (f_j81 : py_F) (H_j81 : Heap) (locs : List Loc) (ls : Array Slot), (0 ≤ v_60.toInt ∧ v_60.toInt ≤ 1) → WF E G L_j81 f_j81 → RP E G f f_j81 → KP G [9, 4, 20] false f f_j81 → py_W E (va_A (va_pl L f) s.heap.size) s L_j81 f_j81 H_j81 locs → lv_has ls 5 [(0, .ref h), (1, .ref t), (2, .int a), (3, .int i)] → W p l e (headSpec w_X4_readNested ({ frames := fr + 1, cells := 0, slots := 0, locals := lo + 60 })).room s m ([.ref h, .ref t, .int a, .int i] : List Value).toArray below meth c H_j81 locs 0 0 (MQ below (py_Qi E L f s.heap.size (fun r L1 f1 => (0 ≤ r.toInt ∧ r.toInt ≤ 1) ∧ WF E G L1 f1 ∧ RP E G f f1 ∧ KP G [9, 4, 20] false f f1)) ([.ref h, .ref t, .int a, .int i] : List Value).toArray s 0 0 (va_A (va_pl L f) s.heap.size)) (F0 m 81 ls [.int v_60]) := by
          intro v_60 L_j81 f_j81 H_j81 locs ls bv_60 hWF hRP hKP hw hl
          exact py_iret G0 hr (ti_bool (by omega) (by omega)) hlk hw ⟨⟨by omega, by omega⟩, hWF, hRP, hKP⟩ dX4_readNested_81
        refine lv_if_eq (tgt := 80) G0.1 G0.2.1 dX4_readNested_64 (by decide) (fun c_61 => ?_) (fun c_61 => ?_)
        · skip
          have tc_61 := ti_eq c_61
          refine lv_iconst (v := 0) G0.1 G0.2.1 dX4_readNested_80 (by decide) ?_
          exact jn_81 0 L_52 f_53 _ _ ls ⟨by omega, by omega⟩ hWF hRP hKP hw (lv_sub hl [0, 1, 2, 3] rfl)
        · skip
          have tc_61 := ti_ne c_61
          refine lv_aload_n G0.1 G0.2.1 dX4_readNested_67 rfl (lv_at hl 1 rfl) ?_
          refine lv_bipush (v := 41) G0.1 G0.2.1 dX4_readNested_68 (by decide) ?_
          obtain ⟨v_62, v_63, v_64, hr_67, b_65, b_66⟩ := wg_8 hWF Tt
          have bv_64 := wf_free v_64
          have tq_68 := tp_eq hr_67
          refine py_calli hw (va_runV (As := [.int 41]) (rest := []) G0 (c_X8_take l E G L_52 f_53 H_54.size t 41 hG hWF Tt ⟨by omega, by omega⟩) (cwV 1 G0.2.2.2.2 g_X4_readNested_X8_take_31 rfl rfl rfl (by decide +kernel) ⟨(show 1 + 1 ≤ fr + 1 by omega), (show 8 + (2 + 11) + 20 ≤ lo + 60 by omega)⟩) (py_preV hw (C := RX8) (T := TX8) (N := 4) rfl hr_67) rfl rfl hl.1 rfl (lv_room (Nat.le_of_ble_eq_true rfl)) dX4_readNested_70 ⟨(Nat.le_of_ble_eq_true rfl), (Nat.le_of_ble_eq_true rfl)⟩) (fun r_73 L_69 f_70 H_71 locs hp_72 hw => ?_)
          obtain ⟨b_74, hWF, hq_75, kp_76⟩ := hp_72
          have hRP := hRP.trans hq_75
          have hKP := hKP.trans kp_76 (by decide) (by decide)
          have hr_51 := kp_at kp_76 hWF Th (by decide) (by decide) (by decide) hr_51
          refine lv_if_eq (tgt := 80) G0.1 G0.2.1 dX4_readNested_73 (by decide) (fun c_77 => ?_) (fun c_77 => ?_)
          · skip
            have tc_77 := ti_eq c_77
            refine lv_iconst (v := 0) G0.1 G0.2.1 dX4_readNested_80 (by decide) ?_
            exact jn_81 0 L_69 f_70 _ _ ls ⟨by omega, by omega⟩ hWF hRP hKP hw (lv_sub hl [0, 1, 2, 3] rfl)
          · skip
            have tc_77 := ti_ne c_77
            refine lv_iconst (v := 1) G0.1 G0.2.1 dX4_readNested_76 (by decide) ?_
            refine lv_goto (tgt := 81) G0.1 G0.2.1 dX4_readNested_77 (by decide) ?_
            exact jn_81 1 L_69 f_70 _ _ ls ⟨by omega, by omega⟩ hWF hRP hKP hw (lv_sub hl [0, 1, 2, 3] rfl)
    · skip
      have tc_16 := ti_eq c_16
      refine lv_aload_n G0.1 G0.2.1 dX4_readNested_24 rfl (lv_at hl 0 rfl) ?_
      refine lv_aload_n G0.1 G0.2.1 dX4_readNested_25 rfl (lv_at hl 1 rfl) ?_
      refine lv_iload_n G0.1 G0.2.1 dX4_readNested_26 rfl (lv_at hl 3 rfl) ?_
      refine lv_iconst (v := 1) G0.1 G0.2.1 dX4_readNested_27 (by decide) ?_
      refine lv_iadd G0.1 G0.2.1 dX4_readNested_28 ?_
      refine lv_topi (fun x_78 ex_78 => ?_)
      first | have tx_78 := ti_add ex_78 (by omega) (by omega) | skip
      refine lv_iconst (v := 0) G0.1 G0.2.1 dX4_readNested_29 (by decide) ?_
      obtain ⟨r_79, hr_81, ty_80⟩ := wg_4 hWF Th
      refine py_calli hw (va_runV (As := [.ref t, .int x_78, .int 0]) (rest := []) G0 (ih_unit L f_11 H_12.size h t x_78 0 hWF Th Tt ⟨by omega, by omega⟩ (show (wb + 1) ≤ x_78.toInt ∧ x_78.toInt ≤ 6 by omega)) (cwV 3 G0.2.2.2.2 g_X4_readNested_X4_readUnit_54 rfl rfl rfl (by decide +kernel) ⟨(show f_unit + 1 ≤ fr + 1 by omega), (show 8 + (6 + 11) + l_unit ≤ lo + 60 by omega)⟩) (py_preV hw (C := RX4) (T := TX4) (N := 1) rfl hr_81) rfl rfl hl.1 rfl (lv_room (Nat.le_of_ble_eq_true rfl)) dX4_readNested_30 ⟨(Nat.le_of_ble_eq_true rfl), (Nat.le_of_ble_eq_true rfl)⟩) (fun r_86 L_82 f_83 H_84 locs hp_85 hw => ?_)
      obtain ⟨b_87, hWF, hq_88, kp_89⟩ := hp_85
      have hRP := hRP.trans hq_88
      have hKP := hKP.trans kp_89 (by decide) (by decide)
      have hr_81 := kp_at kp_89 hWF Th (by decide) (by decide) (by decide) hr_81
      refine lv_istore (lv' := [(4, .int r_86), (0, .ref h), (1, .ref t), (2, .int a), (3, .int i)]) G0.1 G0.2.1 dX4_readNested_33 hl (by decide) rfl (fun ls hl => ?_)
      refine lv_aload_n G0.1 G0.2.1 dX4_readNested_35 rfl (lv_at hl 1 rfl) ?_
      refine py_get (C := RX4) (T := TX4) (N := 1) (k := 0) (v := .ref r_79) G0 hw in_X4_readNested_X4 rfl hr_81 (by decide) (by decide +kernel) rfl dX4_readNested_36 ?_
      refine lv_bipush (v := 33) G0.1 G0.2.1 dX4_readNested_39 (by decide) ?_
      refine lv_iconst (v := 0) G0.1 G0.2.1 dX4_readNested_41 (by decide) ?_
      obtain ⟨t_90, t_91⟩ := wt_3 hG ty_80
      obtain ⟨v_92, hr_94, b_93⟩ := wg_3 hWF ty_80
      refine py_callv hw (va_runV (As := [.int 33, .int 0]) (rest := []) G0 (c_X3_add l E G L_82 f_83 H_84.size r_79 33 0 hG hWF ty_80) (cwV 2 G0.2.2.2.2 g_X4_readNested_X3_add_46 rfl rfl rfl (by decide +kernel) ⟨(show 0 + 1 ≤ fr + 1 by omega), (show 8 + (3 + 11) + 0 ≤ lo + 60 by omega)⟩) (py_preV hw (C := RX3) (T := TX3) (N := 3) rfl hr_94) rfl rfl hl.1 rfl (lv_room (Nat.le_of_ble_eq_true rfl)) dX4_readNested_42 ⟨(Nat.le_of_ble_eq_true rfl), (Nat.le_of_ble_eq_true rfl)⟩) (fun L_95 f_96 H_97 locs hp_98 hw => ?_)
      obtain ⟨hWF, hq_100, kp_101⟩ := hp_98
      have hRP := hRP.trans hq_100
      have hKP := hKP.trans kp_101 (by decide) (by decide)
      have hr_81 := kp_at kp_101 hWF Th (by decide) (by decide) (by decide) hr_81
      refine lv_iload G0.1 G0.2.1 dX4_readNested_45 (lv_at hl 0 rfl) ?_
      exact py_iret G0 hr (ti_bool (by omega) (by omega)) hlk hw ⟨⟨by omega, by omega⟩, hWF, hRP, hKP⟩ dX4_readNested_47
  · skip
    have tc_1 := ti_nlt c_1
    refine lv_iconst (v := 0) G0.1 G0.2.1 dX4_readNested_6 (by decide) ?_
    exact py_iret G0 hr rfl hlk hw ⟨⟨by omega, by omega⟩, hWF, hRP, hKP⟩ dX4_readNested_7

set_option maxHeartbeats 4000000 in
set_option maxRecDepth 100000 in
theorem k_atom (l : Launch) (E : py_E) (G : wf_G) (hG : GT G) (wb : Int) (hwb : 0 ≤ wb) (fr lo : Nat) (hfr : 10 ≤ fr) (hlo : 300 ≤ lo) (f_nested l_nested : Nat) (x_nested : f_nested ≤ fr) (z_nested : l_nested ≤ lo) (ih_nested : P_nested l E G wb f_nested l_nested) : P_atom l E G wb (fr + 1) (lo + 60) := by
  intro L f sz h t i hWF Th Tt hp0
  refine Met.ofW (cc := cX4_readAtom) (maxL := 5) (ret := (some .boolean)) (by decide) rfl ?_
  intro p e s m args below meth c s₁ B hml hv
  obtain ⟨rfl, rfl, hw⟩ := py_start hv
  have G0 : CallFix p m c cX4_readAtom 5 s _ w_X4_readAtom RX4 := ⟨B.exec, B.bytes, hml, findClass_of_methodNamed B.named, atoms_spec (ws := w_X4_readAtom) B.pre⟩
  have hr := B.returns
  have hlk := B.notSynchronized
  have kcm1 : (-1 : Int32).toInt = -1 := rfl
  have kc0 : (0 : Int32).toInt = 0 := rfl
  have kc1 : (1 : Int32).toInt = 1 := rfl
  have kc4 : (4 : Int32).toInt = 4 := rfl
  have kc6 : (6 : Int32).toInt = 6 := rfl
  have kc48 : (48 : Int32).toInt = 48 := rfl
  have kc91 : (91 : Int32).toInt = 91 := rfl
  have kc121 : (121 : Int32).toInt = 121 := rfl
  have hl := lv_entry ([.ref h, .ref t, .int i]) (n := 5) (Nat.le_of_ble_eq_true rfl)
  rw [lg_entry_eq]
  generalize (lg_sl ([.ref h, .ref t, .int i]) ++ List.replicate (5 - (lg_sl ([.ref h, .ref t, .int i])).length) Slot.unset).toArray = ls at hl ⊢
  have hl : lv_has ls 5 [(0, .ref h), (1, .ref t), (2, .int i)] := hl
  have hRP : RP E G f f := RP.refl
  have hKP : KP G [9, 4, 20] false f f := KP.refl
  refine lv_aload_n G0.1 G0.2.1 dX4_readAtom_0 rfl (lv_at hl 1 rfl) ?_
  have t_1 := wt_8 hG Tt
  obtain ⟨v_2, v_3, v_4, hr_7, b_5, b_6⟩ := wg_8 hWF Tt
  have bv_4 := wf_free v_4
  have tq_8 := tp_eq hr_7
  refine py_calli hw (va_runV (As := []) (rest := []) G0 (c_X8_next l E G L f s.heap.size t hG hWF Tt) (cwV 0 G0.2.2.2.2 g_X4_readAtom_X8_next_35 rfl rfl rfl (by decide +kernel) ⟨(show 0 + 1 ≤ fr + 1 by omega), (show 8 + (1 + 11) + 0 ≤ lo + 60 by omega)⟩) (py_preV hw (C := RX8) (T := TX8) (N := 4) rfl hr_7) rfl rfl hl.1 rfl (lv_room (Nat.le_of_ble_eq_true rfl)) dX4_readAtom_1 ⟨(Nat.le_of_ble_eq_true rfl), (Nat.le_of_ble_eq_true rfl)⟩) (fun r_13 L_9 f_10 H_11 locs hp_12 hw => ?_)
  obtain ⟨en_14, hWF, hq_15, kp_16⟩ := hp_12
  have hRP := hRP.trans hq_15
  have hKP := hKP.trans kp_16 (by decide) (by decide)
  have br_13 := wf_free r_13
  refine lv_istore_n (lv' := [(3, .int r_13), (0, .ref h), (1, .ref t), (2, .int i)]) G0.1 G0.2.1 dX4_readAtom_4 rfl hl (by decide) rfl (fun ls hl => ?_)
  refine lv_iload_n G0.1 G0.2.1 dX4_readAtom_5 rfl (lv_at hl 0 rfl) ?_
  refine lv_bipush (v := 91) G0.1 G0.2.1 dX4_readAtom_6 (by decide) ?_
  refine lv_icmp_ne (tgt := 19) G0.1 G0.2.1 dX4_readAtom_8 (by decide) (fun c_17 => ?_) (fun c_17 => ?_)
  · skip
    have tc_17 := ti_ne c_17
    refine lv_iconst (v := 0) G0.1 G0.2.1 dX4_readAtom_19 (by decide) ?_
    refine lv_istore (lv' := [(4, .int 0), (3, .int r_13), (0, .ref h), (1, .ref t), (2, .int i)]) G0.1 G0.2.1 dX4_readAtom_20 hl (by decide) rfl (fun ls hl => ?_)
    have lo_22 : ∀ n_22 : Nat, ∀ (v_18 : Int32) (H_j22 : Heap) (locs : List Loc) (ls : Array Slot), (2147483647 - v_18.toInt).toNat = n_22 → (0 ≤ v_18.toInt ∧ v_18.toInt ≤ 2147483647) → py_W E (va_A (va_pl L f) s.heap.size) s L_9 f_10 H_j22 locs → lv_has ls 5 [(4, .int v_18), (3, .int r_13), (0, .ref h), (1, .ref t), (2, .int i)] → W p l e (headSpec w_X4_readAtom ({ frames := fr + 1, cells := 0, slots := 0, locals := lo + 60 })).room s m ([.ref h, .ref t, .int i] : List Value).toArray below meth c H_j22 locs 0 0 (MQ below (py_Qi E L f s.heap.size (fun r L1 f1 => (0 ≤ r.toInt ∧ r.toInt ≤ 1) ∧ WF E G L1 f1 ∧ RP E G f f1 ∧ KP G [9, 4, 20] false f f1)) ([.ref h, .ref t, .int i] : List Value).toArray s 0 0 (va_A (va_pl L f) s.heap.size)) (F0 m 22 ls []) := by
      intro n_22
      induction n_22 using Nat.strongRecOn with
      | _ n_22 ih_22 =>
        intro v_18 H_j22 locs ls hn_22 bv_18 hw hl
        refine lv_iload G0.1 G0.2.1 dX4_readAtom_22 (lv_at hl 0 rfl) ?_
        obtain ⟨st_19, z_20, T_21⟩ := hw.2.2.2.2.2.2.2.2.2.2
        refine va_gets (C := "HeadYear$LawReader") G0.1 G0.2.1 z_20 hw.2.2.2.1 G0.2.2.2.1 (G0.2.2.2.2 (Cond.fieldLink RX4 70 "HeadYear$LawReader" "LETTERS" "[C") (by decide +kernel)) (fun _ h => h) dX4_readAtom_24 ?_
        refine va_tlen (v := 6) G0.1 G0.2.1 T_21 hw.2.2.2.1 rfl dX4_readAtom_27 ?_
        refine lv_icmp_ge (tgt := 70) G0.1 G0.2.1 dX4_readAtom_28 (by decide) (fun c_22 => ?_) (fun c_22 => ?_)
        · skip
          have tc_22 := ti_le c_22
          refine lv_aload_n G0.1 G0.2.1 dX4_readAtom_70 rfl (lv_at hl 3 rfl) ?_
          refine lv_iconst (v := 4) G0.1 G0.2.1 dX4_readAtom_71 (by decide) ?_
          obtain ⟨v_23, v_24, v_25, hr_28, b_26, b_27⟩ := wg_8 hWF Tt
          have bv_25 := wf_free v_25
          have tq_29 := tp_eq hr_28
          refine py_calli hw (va_runV (As := [.int 4]) (rest := []) G0 (c_X8_takeNumber l E G L_9 f_10 H_j22.size t 4 hG hWF Tt ⟨by omega, by omega⟩) (cwV 1 G0.2.2.2.2 g_X4_readAtom_X8_takeNumber_74 rfl rfl rfl (by decide +kernel) ⟨(show 1 + 1 ≤ fr + 1 by omega), (show 8 + (3 + 11) + 20 ≤ lo + 60 by omega)⟩) (py_preV hw (C := RX8) (T := TX8) (N := 4) rfl hr_28) rfl rfl hl.1 rfl (lv_room (Nat.le_of_ble_eq_true rfl)) dX4_readAtom_72 ⟨(Nat.le_of_ble_eq_true rfl), (Nat.le_of_ble_eq_true rfl)⟩) (fun r_34 L_30 f_31 H_32 locs hp_33 hw => ?_)
          obtain ⟨b_36, en_35, hWF, hq_37, kp_38⟩ := hp_33
          have hRP := hRP.trans hq_37
          have hKP := hKP.trans kp_38 (by decide) (by decide)
          refine lv_if_ne (tgt := 80) G0.1 G0.2.1 dX4_readAtom_75 (by decide) (fun c_39 => ?_) (fun c_39 => ?_)
          · skip
            have tc_39 := ti_ne c_39
            refine lv_aload_n G0.1 G0.2.1 dX4_readAtom_80 rfl (lv_at hl 2 rfl) ?_
            obtain ⟨r_40, hr_42, ty_41⟩ := wg_4 hWF Th
            refine py_get (C := RX4) (T := TX4) (N := 1) (k := 0) (v := .ref r_40) G0 hw in_X4_readAtom_X4 rfl hr_42 (by decide) (by decide +kernel) rfl dX4_readAtom_81 ?_
            refine lv_bipush (v := 48) G0.1 G0.2.1 dX4_readAtom_84 (by decide) ?_
            refine lv_aload_n G0.1 G0.2.1 dX4_readAtom_86 rfl (lv_at hl 3 rfl) ?_
            obtain ⟨v_43, v_44, v_45, hr_48, b_46, b_47⟩ := wg_8 hWF Tt
            have bv_45 := wf_free v_45
            have tq_49 := tp_eq hr_48
            refine py_get (C := RX8) (T := TX8) (N := 4) (k := 3) (v := .int v_45) G0 hw in_X4_readAtom_X8 rfl hr_48 (by decide) (by decide +kernel) rfl dX4_readAtom_87 ?_
            obtain ⟨t_50, t_51⟩ := wt_3 hG ty_41
            obtain ⟨v_52, hr_54, b_53⟩ := wg_3 hWF ty_41
            refine py_callv hw (va_runV (As := [.int 48, .int v_45]) (rest := []) G0 (c_X3_add l E G L_30 f_31 H_32.size r_40 48 v_45 hG hWF ty_41) (cwV 2 G0.2.2.2.2 g_X4_readAtom_X3_add_46 rfl rfl rfl (by decide +kernel) ⟨(show 0 + 1 ≤ fr + 1 by omega), (show 8 + (3 + 11) + 0 ≤ lo + 60 by omega)⟩) (py_preV hw (C := RX3) (T := TX3) (N := 3) rfl hr_54) rfl rfl hl.1 rfl (lv_room (Nat.le_of_ble_eq_true rfl)) dX4_readAtom_90 ⟨(Nat.le_of_ble_eq_true rfl), (Nat.le_of_ble_eq_true rfl)⟩) (fun L_55 f_56 H_57 locs hp_58 hw => ?_)
            obtain ⟨hWF, hq_60, kp_61⟩ := hp_58
            have hRP := hRP.trans hq_60
            have hKP := hKP.trans kp_61 (by decide) (by decide)
            have hr_42 := kp_at kp_61 hWF Th (by decide) (by decide) (by decide) hr_42
            have hr_48 := kp_at kp_61 hWF Tt (by decide) (by decide) (by decide) hr_48
            have tq_62 := tp_eq hr_48
            refine lv_iconst (v := 1) G0.1 G0.2.1 dX4_readAtom_93 (by decide) ?_
            exact py_iret G0 hr rfl hlk hw ⟨⟨by omega, by omega⟩, hWF, hRP, hKP⟩ dX4_readAtom_94
          · skip
            have tc_39 := ti_eq c_39
            refine lv_iconst (v := 0) G0.1 G0.2.1 dX4_readAtom_78 (by decide) ?_
            exact py_iret G0 hr rfl hlk hw ⟨⟨by omega, by omega⟩, hWF, hRP, hKP⟩ dX4_readAtom_79
        · skip
          have tc_22 := ti_nle c_22
          obtain ⟨st_63, z_64, T_65⟩ := hw.2.2.2.2.2.2.2.2.2.2
          refine va_gets (C := "HeadYear$LawReader") G0.1 G0.2.1 z_64 hw.2.2.2.1 G0.2.2.2.1 (G0.2.2.2.2 (Cond.fieldLink RX4 70 "HeadYear$LawReader" "LETTERS" "[C") (by decide +kernel)) (fun _ h => h) dX4_readAtom_31 ?_
          refine lv_iload G0.1 G0.2.1 dX4_readAtom_34 (lv_at hl 0 rfl) ?_
          have rg_66 : vp_in v_18 6 := ti_in (by omega) (by omega)
          refine va_tc (v := .int (st_LL.getD (v_18 : Int32).toNatClampNeg 0)) G0.1 G0.2.1 T_65 hw.2.2.2.1 rg_66 rfl dX4_readAtom_36 ?_
          refine lv_topi (fun x_67 ex_67 => ?_)
          have bx_67 := st_LL_b rg_66 ex_67
          refine lv_iload_n G0.1 G0.2.1 dX4_readAtom_37 rfl (lv_at hl 1 rfl) ?_
          refine lv_icmp_ne (tgt := 64) G0.1 G0.2.1 dX4_readAtom_38 (by decide) (fun c_68 => ?_) (fun c_68 => ?_)
          · skip
            have tc_68 := ti_ne c_68
            obtain ⟨x_69, ex_69⟩ : ∃ y : Int32, y = v_18 + 1 := ⟨_, rfl⟩
            first | have tx_69 := ti_add ex_69 (by omega) (by omega) | skip
            refine lv_iinc (v := x_69) (lv' := [(4, .int x_69), (3, .int r_13), (0, .ref h), (1, .ref t), (2, .int i)]) G0.1 G0.2.1 dX4_readAtom_64 hl (k := 0) rfl (show _ + (1 : Int32) = _ from ex_69.symm) (by decide) rfl (fun ls hl => ?_)
            refine lv_goto (tgt := 22) G0.1 G0.2.1 dX4_readAtom_67 (by decide) ?_
            exact ih_22 ((2147483647 - x_69.toInt).toNat) (by omega) x_69 _ _ ls rfl ⟨by omega, by omega⟩ hw (lv_sub hl [0, 1, 2, 3, 4] rfl)
          · skip
            have tc_68 := ti_eq c_68
            refine lv_aload_n G0.1 G0.2.1 dX4_readAtom_41 rfl (lv_at hl 3 rfl) ?_
            refine lv_dup G0.1 G0.2.1 dX4_readAtom_42 rfl ?_
            obtain ⟨v_70, v_71, v_72, hr_75, b_73, b_74⟩ := wg_8 hWF Tt
            have bv_72 := wf_free v_72
            have tq_76 := tp_eq hr_75
            refine py_get (C := RX8) (T := TX8) (N := 4) (k := 2) (v := .int v_71) G0 hw in_X4_readAtom_X8 rfl hr_75 (by decide) (by decide +kernel) rfl dX4_readAtom_43 ?_
            refine lv_iconst (v := 1) G0.1 G0.2.1 dX4_readAtom_46 (by decide) ?_
            refine lv_iadd G0.1 G0.2.1 dX4_readAtom_47 ?_
            refine lv_topi (fun x_77 ex_77 => ?_)
            first | have tx_77 := ti_add ex_77 (by omega) (by omega) | skip
            refine py_put (C := RX8) (T := TX8) (N := 4) (k := 2) (v := .int x_77) (fs' := [.ref (G.2 t 0), .int v_70, .int x_77, .int v_72]) (ty0 := tyX8) G0 hw tyX8_ok nmX8 in_X4_readAtom_X8 rfl hr_75 (by decide) (by decide +kernel) rfl rfl rfl rfl (Nat.le_of_ble_eq_true rfl) rfl dX4_readAtom_48 (fun f_78 H_79 locs h_80 x_81 hw => ?_)
            have hKP := hKP.upd hWF x_81 Tt (Or.inl (by decide))
            have hRP := hRP.trans (rp_upd hG hWF x_81 hr_75.2 h_80.2 (rp_code hG Tt (by decide)) rfl)
            have hWF := wf_upd hWF h_80 x_81 (by rw [Tt]; exact ⟨v_70, x_77, v_72, rfl, ⟨by omega, by omega⟩, ⟨by omega, by omega⟩⟩)
            have tq_82 := tp_eq h_80
            refine lv_aload_n G0.1 G0.2.1 dX4_readAtom_51 rfl (lv_at hl 2 rfl) ?_
            obtain ⟨r_83, hr_85, ty_84⟩ := wg_4 hWF Th
            refine py_get (C := RX4) (T := TX4) (N := 1) (k := 0) (v := .ref r_83) G0 hw in_X4_readAtom_X4 rfl hr_85 (by decide) (by decide +kernel) rfl dX4_readAtom_52 ?_
            refine lv_bipush (v := 121) G0.1 G0.2.1 dX4_readAtom_55 (by decide) ?_
            refine lv_iload G0.1 G0.2.1 dX4_readAtom_57 (lv_at hl 0 rfl) ?_
            obtain ⟨t_86, t_87⟩ := wt_3 hG ty_84
            obtain ⟨v_88, hr_90, b_89⟩ := wg_3 hWF ty_84
            refine py_callv hw (va_runV (As := [.int 121, .int v_18]) (rest := []) G0 (c_X3_add l E G L_9 f_78 H_79.size r_83 121 v_18 hG hWF ty_84) (cwV 2 G0.2.2.2.2 g_X4_readAtom_X3_add_46 rfl rfl rfl (by decide +kernel) ⟨(show 0 + 1 ≤ fr + 1 by omega), (show 8 + (3 + 11) + 0 ≤ lo + 60 by omega)⟩) (py_preV hw (C := RX3) (T := TX3) (N := 3) rfl hr_90) rfl rfl hl.1 rfl (lv_room (Nat.le_of_ble_eq_true rfl)) dX4_readAtom_59 ⟨(Nat.le_of_ble_eq_true rfl), (Nat.le_of_ble_eq_true rfl)⟩) (fun L_91 f_92 H_93 locs hp_94 hw => ?_)
            obtain ⟨hWF, hq_96, kp_97⟩ := hp_94
            have hRP := hRP.trans hq_96
            have hKP := hKP.trans kp_97 (by decide) (by decide)
            have h_80 := kp_at kp_97 hWF Tt (by decide) (by decide) (by decide) h_80
            have tq_98 := tp_eq h_80
            have hr_85 := kp_at kp_97 hWF Th (by decide) (by decide) (by decide) hr_85
            refine lv_iconst (v := 1) G0.1 G0.2.1 dX4_readAtom_62 (by decide) ?_
            exact py_iret G0 hr rfl hlk hw ⟨⟨by omega, by omega⟩, hWF, hRP, hKP⟩ dX4_readAtom_63
    exact lo_22 _ 0 _ _ ls rfl ⟨by omega, by omega⟩ hw (lv_sub hl [0, 1, 2, 3, 4] rfl)
  · skip
    have tc_17 := ti_eq c_17
    refine lv_aload_n G0.1 G0.2.1 dX4_readAtom_11 rfl (lv_at hl 1 rfl) ?_
    refine lv_aload_n G0.1 G0.2.1 dX4_readAtom_12 rfl (lv_at hl 2 rfl) ?_
    refine lv_iload_n G0.1 G0.2.1 dX4_readAtom_13 rfl (lv_at hl 0 rfl) ?_
    refine lv_iload_n G0.1 G0.2.1 dX4_readAtom_14 rfl (lv_at hl 3 rfl) ?_
    obtain ⟨r_99, hr_101, ty_100⟩ := wg_4 hWF Th
    refine py_calli hw (va_runV (As := [.ref t, .int r_13, .int i]) (rest := []) G0 (ih_nested L_9 f_10 H_11.size h t r_13 i hWF Th Tt (show wb ≤ i.toInt ∧ i.toInt ≤ 6 by omega) (show tp_a f_10 t < tp_l f_10 t by omega)) (cwV 3 G0.2.2.2.2 g_X4_readAtom_X4_readNested_66 rfl rfl rfl (by decide +kernel) ⟨(show f_nested + 1 ≤ fr + 1 by omega), (show 8 + (5 + 11) + l_nested ≤ lo + 60 by omega)⟩) (py_preV hw (C := RX4) (T := TX4) (N := 1) rfl hr_101) rfl rfl hl.1 rfl (lv_room (Nat.le_of_ble_eq_true rfl)) dX4_readAtom_15 ⟨(Nat.le_of_ble_eq_true rfl), (Nat.le_of_ble_eq_true rfl)⟩) (fun r_106 L_102 f_103 H_104 locs hp_105 hw => ?_)
    obtain ⟨b_107, hWF, hq_108, kp_109⟩ := hp_105
    have hRP := hRP.trans hq_108
    have hKP := hKP.trans kp_109 (by decide) (by decide)
    have hr_101 := kp_at kp_109 hWF Th (by decide) (by decide) (by decide) hr_101
    exact py_iret G0 hr (ti_bool (by omega) (by omega)) hlk hw ⟨⟨by omega, by omega⟩, hWF, hRP, hKP⟩ dX4_readAtom_18

set_option maxHeartbeats 4000000 in
set_option maxRecDepth 100000 in
theorem k_chain3 (l : Launch) (E : py_E) (G : wf_G) (hG : GT G) (wb : Int) (hwb : 0 ≤ wb) (fr lo : Nat) (hfr : 10 ≤ fr) (hlo : 300 ≤ lo) (f_atom l_atom : Nat) (x_atom : f_atom ≤ fr) (z_atom : l_atom ≤ lo) (ih_atom : P_atom l E G wb f_atom l_atom) : P_chain3 l E G wb (fr + 1) (lo + 60) := by
  intro L f sz h t i b hWF Th Tt Bb hp0
  refine Met.ofW (cc := cX4_readChain) (maxL := 9) (ret := (some .boolean)) (by decide) rfl ?_
  intro p e s m args below meth c s₁ B hml hv
  obtain ⟨rfl, rfl, hw⟩ := py_start hv
  have G0 : CallFix p m c cX4_readChain 9 s _ w_X4_readChain RX4 := ⟨B.exec, B.bytes, hml, findClass_of_methodNamed B.named, atoms_spec (ws := w_X4_readChain) B.pre⟩
  have hr := B.returns
  have hlk := B.notSynchronized
  have kcm1 : (-1 : Int32).toInt = -1 := rfl
  have kc0 : (0 : Int32).toInt = 0 := rfl
  have kc1 : (1 : Int32).toInt = 1 := rfl
  have kc3 : (3 : Int32).toInt = 3 := rfl
  have kc160 : (160 : Int32).toInt = 160 := rfl
  have hl := lv_entry ([.ref h, .ref t, .int 3, .int i, .int b]) (n := 9) (Nat.le_of_ble_eq_true rfl)
  rw [lg_entry_eq]
  generalize (lg_sl ([.ref h, .ref t, .int 3, .int i, .int b]) ++ List.replicate (9 - (lg_sl ([.ref h, .ref t, .int 3, .int i, .int b])).length) Slot.unset).toArray = ls at hl ⊢
  have hl : lv_has ls 9 [(0, .ref h), (1, .ref t), (2, .int 3), (3, .int i), (4, .int b)] := hl
  have hRP : RP E G f f := RP.refl
  have hKP : KP G [9, 4, 20] false f f := KP.refl
  refine lv_iconst (v := 0) G0.1 G0.2.1 dX4_readChain_0 (by decide) ?_
  refine lv_istore (lv' := [(5, .int 0), (0, .ref h), (1, .ref t), (2, .int 3), (3, .int i), (4, .int b)]) G0.1 G0.2.1 dX4_readChain_1 hl (by decide) rfl (fun ls hl => ?_)
  refine lv_iconst (v := 0) G0.1 G0.2.1 dX4_readChain_3 (by decide) ?_
  refine lv_istore (lv' := [(6, .int 0), (5, .int 0), (0, .ref h), (1, .ref t), (2, .int 3), (3, .int i), (4, .int b)]) G0.1 G0.2.1 dX4_readChain_4 hl (by decide) rfl (fun ls hl => ?_)
  have lo_6 : ∀ n_6 : Nat, ∀ (v_1 : Int32) (v_2 : Int32) (L_j6 : List Nat) (f_j6 : py_F) (H_j6 : Heap) (locs : List Loc) (ls : Array Slot), (2147483647 - v_1.toInt).toNat = n_6 → (0 ≤ v_1.toInt ∧ v_1.toInt ≤ 2147483647) → WF E G L_j6 f_j6 → RP E G f f_j6 → KP G [9, 4, 20] false f f_j6 → py_W E (va_A (va_pl L f) s.heap.size) s L_j6 f_j6 H_j6 locs → lv_has ls 9 [(6, .int v_1), (5, .int v_2), (0, .ref h), (1, .ref t), (2, .int 3), (3, .int i), (4, .int b)] → W p l e (headSpec w_X4_readChain ({ frames := fr + 1, cells := 0, slots := 0, locals := lo + 60 })).room s m ([.ref h, .ref t, .int 3, .int i, .int b] : List Value).toArray below meth c H_j6 locs 0 0 (MQ below (py_Qi E L f s.heap.size (fun r L1 f1 => (0 ≤ r.toInt ∧ r.toInt ≤ 1) ∧ WF E G L1 f1 ∧ RP E G f f1 ∧ KP G [9, 4, 20] false f f1)) ([.ref h, .ref t, .int 3, .int i, .int b] : List Value).toArray s 0 0 (va_A (va_pl L f) s.heap.size)) (F0 m 6 ls []) := by
    intro n_6
    induction n_6 using Nat.strongRecOn with
    | _ n_6 ih_6 =>
      intro v_1 v_2 L_j6 f_j6 H_j6 locs ls hn_6 bv_1 hWF hRP hKP hw hl
      refine lv_iload G0.1 G0.2.1 dX4_readChain_6 (lv_at hl 0 rfl) ?_
      refine lv_sipush (v := 160) G0.1 G0.2.1 dX4_readChain_8 (by decide) ?_
      refine lv_icmp_ge (tgt := 133) G0.1 G0.2.1 dX4_readChain_11 (by decide) (fun c_3 => ?_) (fun c_3 => ?_)
      · skip
        have tc_3 := ti_le c_3
        refine lv_iconst (v := 0) G0.1 G0.2.1 dX4_readChain_133 (by decide) ?_
        exact py_iret G0 hr rfl hlk hw ⟨⟨by omega, by omega⟩, hWF, hRP, hKP⟩ dX4_readChain_134
      · skip
        have tc_3 := ti_nle c_3
        refine lv_iload G0.1 G0.2.1 dX4_readChain_14 (lv_at hl 6 rfl) ?_
        have jn_29 : ∀ (v_4 : Int32) (H_j29 : Heap) (locs : List Loc) (ls : Array Slot), (0 ≤ v_4.toInt ∧ v_4.toInt ≤ 1) → py_W E (va_A (va_pl L f) s.heap.size) s L_j6 f_j6 H_j29 locs → lv_has ls 9 [(6, .int v_1), (5, .int v_2), (0, .ref h), (1, .ref t), (2, .int 3), (3, .int i), (4, .int b)] → W p l e (headSpec w_X4_readChain ({ frames := fr + 1, cells := 0, slots := 0, locals := lo + 60 })).room s m ([.ref h, .ref t, .int 3, .int i, .int b] : List Value).toArray below meth c H_j29 locs 0 0 (MQ below (py_Qi E L f s.heap.size (fun r L1 f1 => (0 ≤ r.toInt ∧ r.toInt ≤ 1) ∧ WF E G L1 f1 ∧ RP E G f f1 ∧ KP G [9, 4, 20] false f f1)) ([.ref h, .ref t, .int 3, .int i, .int b] : List Value).toArray s 0 0 (va_A (va_pl L f) s.heap.size)) (F0 m 29 ls [.int v_4]) := by
          intro v_4 H_j29 locs ls bv_4 hw hl
          refine lv_istore (lv' := [(7, .int v_4), (6, .int v_1), (5, .int v_2), (0, .ref h), (1, .ref t), (2, .int 3), (3, .int i), (4, .int b)]) G0.1 G0.2.1 dX4_readChain_29 hl (by decide) rfl (fun ls hl => ?_)
          refine lv_iload_n G0.1 G0.2.1 dX4_readChain_31 rfl (lv_at hl 5 rfl) ?_
          refine lv_iconst (v := 1) G0.1 G0.2.1 dX4_readChain_32 (by decide) ?_
          refine lv_icmp_ne (tgt := 49) G0.1 G0.2.1 dX4_readChain_33 (by decide) (fun c_5 => ?_) (fun c_5 => ?_)
          · skip
            have tc_5 := ti_ne c_5
            refine lv_iload_n G0.1 G0.2.1 dX4_readChain_49 rfl (lv_at hl 5 rfl) ?_
            refine lv_iconst (v := 3) G0.1 G0.2.1 dX4_readChain_50 (by decide) ?_
            refine lv_icmp_ne (tgt := 65) G0.1 G0.2.1 dX4_readChain_51 (by decide) (fun c_6 => ?_) (fun c_6 => ?_)
            · skip
              exact absurd c_6 (by decide)
            · skip
              have tc_6 := ti_eq c_6
              refine lv_aload_n G0.1 G0.2.1 dX4_readChain_54 rfl (lv_at hl 3 rfl) ?_
              refine lv_aload_n G0.1 G0.2.1 dX4_readChain_55 rfl (lv_at hl 4 rfl) ?_
              refine lv_iload_n G0.1 G0.2.1 dX4_readChain_56 rfl (lv_at hl 6 rfl) ?_
              obtain ⟨r_7, hr_9, ty_8⟩ := wg_4 hWF Th
              refine py_calli hw (va_runV (As := [.ref t, .int i]) (rest := []) G0 (ih_atom L_j6 f_j6 H_j29.size h t i hWF Th Tt (show wb ≤ i.toInt ∧ i.toInt ≤ 6 by omega)) (cwV 2 G0.2.2.2.2 g_X4_readChain_X4_readAtom_58 rfl rfl rfl (by decide +kernel) ⟨(show f_atom + 1 ≤ fr + 1 by omega), (show 8 + (5 + 11) + l_atom ≤ lo + 60 by omega)⟩) (py_preV hw (C := RX4) (T := TX4) (N := 1) rfl hr_9) rfl rfl hl.1 rfl (lv_room (Nat.le_of_ble_eq_true rfl)) dX4_readChain_57 ⟨(Nat.le_of_ble_eq_true rfl), (Nat.le_of_ble_eq_true rfl)⟩) (fun r_14 L_10 f_11 H_12 locs hp_13 hw => ?_)
              obtain ⟨b_15, hWF, hq_16, kp_17⟩ := hp_13
              have hRP := hRP.trans hq_16
              have hKP := hKP.trans kp_17 (by decide) (by decide)
              have hr_9 := kp_at kp_17 hWF Th (by decide) (by decide) (by decide) hr_9
              refine lv_istore (lv' := [(8, .int r_14), (7, .int v_4), (6, .int v_1), (5, .int v_2), (0, .ref h), (1, .ref t), (2, .int 3), (3, .int i), (4, .int b)]) G0.1 G0.2.1 dX4_readChain_60 hl (by decide) rfl (fun ls hl => ?_)
              refine lv_goto (tgt := 78) G0.1 G0.2.1 dX4_readChain_62 (by decide) ?_
              refine lv_iload G0.1 G0.2.1 dX4_readChain_78 (lv_at hl 0 rfl) ?_
              refine lv_if_ne (tgt := 85) G0.1 G0.2.1 dX4_readChain_80 (by decide) (fun c_18 => ?_) (fun c_18 => ?_)
              · skip
                have tc_18 := ti_ne c_18
                refine lv_iload G0.1 G0.2.1 dX4_readChain_85 (lv_at hl 2 rfl) ?_
                refine lv_if_le (tgt := 100) G0.1 G0.2.1 dX4_readChain_87 (by decide) (fun c_19 => ?_) (fun c_19 => ?_)
                · skip
                  have tc_19 := ti_le c_19
                  refine lv_aload_n G0.1 G0.2.1 dX4_readChain_100 rfl (lv_at hl 5 rfl) ?_
                  have t_20 := wt_8 hG Tt
                  obtain ⟨v_21, v_22, v_23, hr_26, b_24, b_25⟩ := wg_8 hWF Tt
                  have bv_23 := wf_free v_23
                  have tq_27 := tp_eq hr_26
                  refine py_calli hw (va_runV (As := []) (rest := []) G0 (c_X8_next l E G L_10 f_11 H_12.size t hG hWF Tt) (cwV 0 G0.2.2.2.2 g_X4_readChain_X8_next_35 rfl rfl rfl (by decide +kernel) ⟨(show 0 + 1 ≤ fr + 1 by omega), (show 8 + (1 + 11) + 0 ≤ lo + 60 by omega)⟩) (py_preV hw (C := RX8) (T := TX8) (N := 4) rfl hr_26) rfl rfl hl.1 rfl (lv_room (Nat.le_of_ble_eq_true rfl)) dX4_readChain_101 ⟨(Nat.le_of_ble_eq_true rfl), (Nat.le_of_ble_eq_true rfl)⟩) (fun r_32 L_28 f_29 H_30 locs hp_31 hw => ?_)
                  obtain ⟨en_33, hWF, hq_34, kp_35⟩ := hp_31
                  have hRP := hRP.trans hq_34
                  have hKP := hKP.trans kp_35 (by decide) (by decide)
                  have hr_9 := kp_at kp_35 hWF Th (by decide) (by decide) (by decide) hr_9
                  have br_32 := wf_free r_32
                  refine lv_istore (lv' := [(5, .int r_32), (8, .int r_14), (7, .int v_4), (6, .int v_1), (0, .ref h), (1, .ref t), (2, .int 3), (3, .int i), (4, .int b)]) G0.1 G0.2.1 dX4_readChain_104 hl (by decide) rfl (fun ls hl => ?_)
                  refine lv_iload G0.1 G0.2.1 dX4_readChain_106 (lv_at hl 0 rfl) ?_
                  refine py_calli hw (va_runS (As := [.int r_32]) (rest := []) G0 (c_X4_chainOf l E G L_28 f_29 H_30.size r_32 hG hWF) (va_cwS 1 G0.2.2.2.2 g_X4_readChain_X4_chainOf_62 rfl rfl rfl (by decide +kernel) ⟨(show 0 + 1 ≤ fr + 1 by omega), (show 8 + (1 + 11) + 0 ≤ lo + 60 by omega)⟩) (py_preS hw) rfl rfl hl.1 rfl (lv_room (Nat.le_of_ble_eq_true rfl)) dX4_readChain_108 ⟨(Nat.le_of_ble_eq_true rfl), (Nat.le_of_ble_eq_true rfl)⟩) (fun r_40 L_36 f_37 H_38 locs hp_39 hw => ?_)
                  obtain ⟨b_42, en_41, rfl, rfl⟩ := hp_39
                  refine lv_iload_n G0.1 G0.2.1 dX4_readChain_111 rfl (lv_at hl 6 rfl) ?_
                  refine lv_icmp_eq (tgt := 117) G0.1 G0.2.1 dX4_readChain_112 (by decide) (fun c_43 => ?_) (fun c_43 => ?_)
                  · skip
                    have tc_43 := ti_eq c_43
                    refine lv_aload_n G0.1 G0.2.1 dX4_readChain_117 rfl (lv_at hl 5 rfl) ?_
                    refine lv_dup G0.1 G0.2.1 dX4_readChain_118 rfl ?_
                    obtain ⟨v_44, v_45, v_46, hr_49, b_47, b_48⟩ := wg_8 hWF Tt
                    have bv_46 := wf_free v_46
                    have tq_50 := tp_eq hr_49
                    refine py_get (C := RX8) (T := TX8) (N := 4) (k := 2) (v := .int v_45) G0 hw in_X4_readChain_X8 rfl hr_49 (by decide) (by decide +kernel) rfl dX4_readChain_119 ?_
                    refine lv_iconst (v := 1) G0.1 G0.2.1 dX4_readChain_122 (by decide) ?_
                    refine lv_iadd G0.1 G0.2.1 dX4_readChain_123 ?_
                    refine lv_topi (fun x_51 ex_51 => ?_)
                    first | have tx_51 := ti_add ex_51 (by omega) (by omega) | skip
                    refine py_put (C := RX8) (T := TX8) (N := 4) (k := 2) (v := .int x_51) (fs' := [.ref (G.2 t 0), .int v_44, .int x_51, .int v_46]) (ty0 := tyX8) G0 hw tyX8_ok nmX8 in_X4_readChain_X8 rfl hr_49 (by decide) (by decide +kernel) rfl rfl rfl rfl (Nat.le_of_ble_eq_true rfl) rfl dX4_readChain_124 (fun f_52 H_53 locs h_54 x_55 hw => ?_)
                    have hKP := hKP.upd hWF x_55 Tt (Or.inl (by decide))
                    have hRP := hRP.trans (rp_upd hG hWF x_55 hr_49.2 h_54.2 (rp_code hG Tt (by decide)) rfl)
                    have hWF := wf_upd hWF h_54 x_55 (by rw [Tt]; exact ⟨v_44, x_51, v_46, rfl, ⟨by omega, by omega⟩, ⟨by omega, by omega⟩⟩)
                    have tq_56 := tp_eq h_54
                    have hr_9 := hr_9.ext x_55 (py_ne_kind hr_9 hr_49 (by decide))
                    obtain ⟨x_57, ex_57⟩ : ∃ y : Int32, y = v_1 + 1 := ⟨_, rfl⟩
                    first | have tx_57 := ti_add ex_57 (by omega) (by omega) | skip
                    refine lv_iinc (v := x_57) (lv' := [(6, .int x_57), (5, .int r_32), (8, .int r_14), (7, .int v_4), (0, .ref h), (1, .ref t), (2, .int 3), (3, .int i), (4, .int b)]) G0.1 G0.2.1 dX4_readChain_127 hl (k := 3) rfl (show _ + (1 : Int32) = _ from ex_57.symm) (by decide) rfl (fun ls hl => ?_)
                    refine lv_goto (tgt := 6) G0.1 G0.2.1 dX4_readChain_130 (by decide) ?_
                    exact ih_6 ((2147483647 - x_57.toInt).toNat) (by omega) x_57 r_32 L_28 f_52 _ _ ls rfl ⟨by omega, by omega⟩ hWF hRP hKP hw (lv_sub hl [0, 1, 4, 5, 6, 7, 8] rfl)
                  · skip
                    have tc_43 := ti_ne c_43
                    refine lv_iconst (v := 1) G0.1 G0.2.1 dX4_readChain_115 (by decide) ?_
                    exact py_iret G0 hr rfl hlk hw ⟨⟨by omega, by omega⟩, hWF, hRP, hKP⟩ dX4_readChain_116
                · skip
                  have tc_19 := ti_nle c_19
                  refine lv_aload_n G0.1 G0.2.1 dX4_readChain_90 rfl (lv_at hl 4 rfl) ?_
                  refine py_get (C := RX4) (T := TX4) (N := 1) (k := 0) (v := .ref r_7) G0 hw in_X4_readChain_X4 rfl hr_9 (by decide) (by decide +kernel) rfl dX4_readChain_91 ?_
                  refine lv_iload G0.1 G0.2.1 dX4_readChain_94 (lv_at hl 3 rfl) ?_
                  refine lv_iconst (v := 0) G0.1 G0.2.1 dX4_readChain_96 (by decide) ?_
                  obtain ⟨t_58, t_59⟩ := wt_3 hG ty_8
                  obtain ⟨v_60, hr_62, b_61⟩ := wg_3 hWF ty_8
                  refine py_callv hw (va_runV (As := [.int v_2, .int 0]) (rest := []) G0 (c_X3_add l E G L_10 f_11 H_12.size r_7 v_2 0 hG hWF ty_8) (cwV 2 G0.2.2.2.2 g_X4_readChain_X3_add_46 rfl rfl rfl (by decide +kernel) ⟨(show 0 + 1 ≤ fr + 1 by omega), (show 8 + (3 + 11) + 0 ≤ lo + 60 by omega)⟩) (py_preV hw (C := RX3) (T := TX3) (N := 3) rfl hr_62) rfl rfl hl.1 rfl (lv_room (Nat.le_of_ble_eq_true rfl)) dX4_readChain_97 ⟨(Nat.le_of_ble_eq_true rfl), (Nat.le_of_ble_eq_true rfl)⟩) (fun L_63 f_64 H_65 locs hp_66 hw => ?_)
                  obtain ⟨hWF, hq_68, kp_69⟩ := hp_66
                  have hRP := hRP.trans hq_68
                  have hKP := hKP.trans kp_69 (by decide) (by decide)
                  have hr_9 := kp_at kp_69 hWF Th (by decide) (by decide) (by decide) hr_9
                  refine lv_aload_n G0.1 G0.2.1 dX4_readChain_100 rfl (lv_at hl 5 rfl) ?_
                  have t_70 := wt_8 hG Tt
                  obtain ⟨v_71, v_72, v_73, hr_76, b_74, b_75⟩ := wg_8 hWF Tt
                  have bv_73 := wf_free v_73
                  have tq_77 := tp_eq hr_76
                  refine py_calli hw (va_runV (As := []) (rest := []) G0 (c_X8_next l E G L_63 f_64 H_65.size t hG hWF Tt) (cwV 0 G0.2.2.2.2 g_X4_readChain_X8_next_35 rfl rfl rfl (by decide +kernel) ⟨(show 0 + 1 ≤ fr + 1 by omega), (show 8 + (1 + 11) + 0 ≤ lo + 60 by omega)⟩) (py_preV hw (C := RX8) (T := TX8) (N := 4) rfl hr_76) rfl rfl hl.1 rfl (lv_room (Nat.le_of_ble_eq_true rfl)) dX4_readChain_101 ⟨(Nat.le_of_ble_eq_true rfl), (Nat.le_of_ble_eq_true rfl)⟩) (fun r_82 L_78 f_79 H_80 locs hp_81 hw => ?_)
                  obtain ⟨en_83, hWF, hq_84, kp_85⟩ := hp_81
                  have hRP := hRP.trans hq_84
                  have hKP := hKP.trans kp_85 (by decide) (by decide)
                  have hr_9 := kp_at kp_85 hWF Th (by decide) (by decide) (by decide) hr_9
                  have br_82 := wf_free r_82
                  refine lv_istore (lv' := [(5, .int r_82), (8, .int r_14), (7, .int v_4), (6, .int v_1), (0, .ref h), (1, .ref t), (2, .int 3), (3, .int i), (4, .int b)]) G0.1 G0.2.1 dX4_readChain_104 hl (by decide) rfl (fun ls hl => ?_)
                  refine lv_iload G0.1 G0.2.1 dX4_readChain_106 (lv_at hl 0 rfl) ?_
                  refine py_calli hw (va_runS (As := [.int r_82]) (rest := []) G0 (c_X4_chainOf l E G L_78 f_79 H_80.size r_82 hG hWF) (va_cwS 1 G0.2.2.2.2 g_X4_readChain_X4_chainOf_62 rfl rfl rfl (by decide +kernel) ⟨(show 0 + 1 ≤ fr + 1 by omega), (show 8 + (1 + 11) + 0 ≤ lo + 60 by omega)⟩) (py_preS hw) rfl rfl hl.1 rfl (lv_room (Nat.le_of_ble_eq_true rfl)) dX4_readChain_108 ⟨(Nat.le_of_ble_eq_true rfl), (Nat.le_of_ble_eq_true rfl)⟩) (fun r_90 L_86 f_87 H_88 locs hp_89 hw => ?_)
                  obtain ⟨b_92, en_91, rfl, rfl⟩ := hp_89
                  refine lv_iload_n G0.1 G0.2.1 dX4_readChain_111 rfl (lv_at hl 6 rfl) ?_
                  refine lv_icmp_eq (tgt := 117) G0.1 G0.2.1 dX4_readChain_112 (by decide) (fun c_93 => ?_) (fun c_93 => ?_)
                  · skip
                    have tc_93 := ti_eq c_93
                    refine lv_aload_n G0.1 G0.2.1 dX4_readChain_117 rfl (lv_at hl 5 rfl) ?_
                    refine lv_dup G0.1 G0.2.1 dX4_readChain_118 rfl ?_
                    obtain ⟨v_94, v_95, v_96, hr_99, b_97, b_98⟩ := wg_8 hWF Tt
                    have bv_96 := wf_free v_96
                    have tq_100 := tp_eq hr_99
                    refine py_get (C := RX8) (T := TX8) (N := 4) (k := 2) (v := .int v_95) G0 hw in_X4_readChain_X8 rfl hr_99 (by decide) (by decide +kernel) rfl dX4_readChain_119 ?_
                    refine lv_iconst (v := 1) G0.1 G0.2.1 dX4_readChain_122 (by decide) ?_
                    refine lv_iadd G0.1 G0.2.1 dX4_readChain_123 ?_
                    refine lv_topi (fun x_101 ex_101 => ?_)
                    first | have tx_101 := ti_add ex_101 (by omega) (by omega) | skip
                    refine py_put (C := RX8) (T := TX8) (N := 4) (k := 2) (v := .int x_101) (fs' := [.ref (G.2 t 0), .int v_94, .int x_101, .int v_96]) (ty0 := tyX8) G0 hw tyX8_ok nmX8 in_X4_readChain_X8 rfl hr_99 (by decide) (by decide +kernel) rfl rfl rfl rfl (Nat.le_of_ble_eq_true rfl) rfl dX4_readChain_124 (fun f_102 H_103 locs h_104 x_105 hw => ?_)
                    have hKP := hKP.upd hWF x_105 Tt (Or.inl (by decide))
                    have hRP := hRP.trans (rp_upd hG hWF x_105 hr_99.2 h_104.2 (rp_code hG Tt (by decide)) rfl)
                    have hWF := wf_upd hWF h_104 x_105 (by rw [Tt]; exact ⟨v_94, x_101, v_96, rfl, ⟨by omega, by omega⟩, ⟨by omega, by omega⟩⟩)
                    have tq_106 := tp_eq h_104
                    have hr_9 := hr_9.ext x_105 (py_ne_kind hr_9 hr_99 (by decide))
                    obtain ⟨x_107, ex_107⟩ : ∃ y : Int32, y = v_1 + 1 := ⟨_, rfl⟩
                    first | have tx_107 := ti_add ex_107 (by omega) (by omega) | skip
                    refine lv_iinc (v := x_107) (lv' := [(6, .int x_107), (5, .int r_82), (8, .int r_14), (7, .int v_4), (0, .ref h), (1, .ref t), (2, .int 3), (3, .int i), (4, .int b)]) G0.1 G0.2.1 dX4_readChain_127 hl (k := 3) rfl (show _ + (1 : Int32) = _ from ex_107.symm) (by decide) rfl (fun ls hl => ?_)
                    refine lv_goto (tgt := 6) G0.1 G0.2.1 dX4_readChain_130 (by decide) ?_
                    exact ih_6 ((2147483647 - x_107.toInt).toNat) (by omega) x_107 r_82 L_78 f_102 _ _ ls rfl ⟨by omega, by omega⟩ hWF hRP hKP hw (lv_sub hl [0, 1, 4, 5, 6, 7, 8] rfl)
                  · skip
                    have tc_93 := ti_ne c_93
                    refine lv_iconst (v := 1) G0.1 G0.2.1 dX4_readChain_115 (by decide) ?_
                    exact py_iret G0 hr rfl hlk hw ⟨⟨by omega, by omega⟩, hWF, hRP, hKP⟩ dX4_readChain_116
              · skip
                have tc_18 := ti_eq c_18
                refine lv_iconst (v := 0) G0.1 G0.2.1 dX4_readChain_83 (by decide) ?_
                exact py_iret G0 hr rfl hlk hw ⟨⟨by omega, by omega⟩, hWF, hRP, hKP⟩ dX4_readChain_84
          · skip
            exact absurd c_5 (by decide)
        refine lv_if_eq (tgt := 28) G0.1 G0.2.1 dX4_readChain_16 (by decide) (fun c_108 => ?_) (fun c_108 => ?_)
        · skip
          have tc_108 := ti_eq c_108
          refine lv_iconst (v := 0) G0.1 G0.2.1 dX4_readChain_28 (by decide) ?_
          exact jn_29 0 _ _ ls ⟨by omega, by omega⟩ hw (lv_sub hl [0, 1, 2, 3, 4, 5, 6] rfl)
        · skip
          have tc_108 := ti_ne c_108
          refine lv_iload G0.1 G0.2.1 dX4_readChain_19 (lv_at hl 0 rfl) ?_
          refine lv_if_ne (tgt := 28) G0.1 G0.2.1 dX4_readChain_21 (by decide) (fun c_109 => ?_) (fun c_109 => ?_)
          · skip
            have tc_109 := ti_ne c_109
            refine lv_iconst (v := 0) G0.1 G0.2.1 dX4_readChain_28 (by decide) ?_
            exact jn_29 0 _ _ ls ⟨by omega, by omega⟩ hw (lv_sub hl [0, 1, 2, 3, 4, 5, 6] rfl)
          · skip
            have tc_109 := ti_eq c_109
            refine lv_iconst (v := 1) G0.1 G0.2.1 dX4_readChain_24 (by decide) ?_
            refine lv_goto (tgt := 29) G0.1 G0.2.1 dX4_readChain_25 (by decide) ?_
            exact jn_29 1 _ _ ls ⟨by omega, by omega⟩ hw (lv_sub hl [0, 1, 2, 3, 4, 5, 6] rfl)
  exact lo_6 _ 0 0 L f _ _ ls rfl ⟨by omega, by omega⟩ hWF hRP hKP hw (lv_sub hl [0, 1, 2, 3, 4, 5, 6] rfl)

set_option maxHeartbeats 4000000 in
set_option maxRecDepth 100000 in
theorem k_chain2 (l : Launch) (E : py_E) (G : wf_G) (hG : GT G) (wb : Int) (hwb : 0 ≤ wb) (fr lo : Nat) (hfr : 10 ≤ fr) (hlo : 300 ≤ lo) (f_chain3 l_chain3 : Nat) (x_chain3 : f_chain3 ≤ fr) (z_chain3 : l_chain3 ≤ lo) (ih_chain3 : P_chain3 l E G wb f_chain3 l_chain3) : P_chain2 l E G wb (fr + 1) (lo + 60) := by
  intro L f sz h t i b hWF Th Tt Bb hp0
  refine Met.ofW (cc := cX4_readChain) (maxL := 9) (ret := (some .boolean)) (by decide) rfl ?_
  intro p e s m args below meth c s₁ B hml hv
  obtain ⟨rfl, rfl, hw⟩ := py_start hv
  have G0 : CallFix p m c cX4_readChain 9 s _ w_X4_readChain RX4 := ⟨B.exec, B.bytes, hml, findClass_of_methodNamed B.named, atoms_spec (ws := w_X4_readChain) B.pre⟩
  have hr := B.returns
  have hlk := B.notSynchronized
  have kcm1 : (-1 : Int32).toInt = -1 := rfl
  have kc0 : (0 : Int32).toInt = 0 := rfl
  have kc1 : (1 : Int32).toInt = 1 := rfl
  have kc2 : (2 : Int32).toInt = 2 := rfl
  have kc3 : (3 : Int32).toInt = 3 := rfl
  have kc160 : (160 : Int32).toInt = 160 := rfl
  have hl := lv_entry ([.ref h, .ref t, .int 2, .int i, .int b]) (n := 9) (Nat.le_of_ble_eq_true rfl)
  rw [lg_entry_eq]
  generalize (lg_sl ([.ref h, .ref t, .int 2, .int i, .int b]) ++ List.replicate (9 - (lg_sl ([.ref h, .ref t, .int 2, .int i, .int b])).length) Slot.unset).toArray = ls at hl ⊢
  have hl : lv_has ls 9 [(0, .ref h), (1, .ref t), (2, .int 2), (3, .int i), (4, .int b)] := hl
  have hRP : RP E G f f := RP.refl
  have hKP : KP G [9, 4, 20] false f f := KP.refl
  refine lv_iconst (v := 0) G0.1 G0.2.1 dX4_readChain_0 (by decide) ?_
  refine lv_istore (lv' := [(5, .int 0), (0, .ref h), (1, .ref t), (2, .int 2), (3, .int i), (4, .int b)]) G0.1 G0.2.1 dX4_readChain_1 hl (by decide) rfl (fun ls hl => ?_)
  refine lv_iconst (v := 0) G0.1 G0.2.1 dX4_readChain_3 (by decide) ?_
  refine lv_istore (lv' := [(6, .int 0), (5, .int 0), (0, .ref h), (1, .ref t), (2, .int 2), (3, .int i), (4, .int b)]) G0.1 G0.2.1 dX4_readChain_4 hl (by decide) rfl (fun ls hl => ?_)
  have lo_6 : ∀ n_6 : Nat, ∀ (v_1 : Int32) (v_2 : Int32) (L_j6 : List Nat) (f_j6 : py_F) (H_j6 : Heap) (locs : List Loc) (ls : Array Slot), (2147483647 - v_1.toInt).toNat = n_6 → (0 ≤ v_1.toInt ∧ v_1.toInt ≤ 2147483647) → WF E G L_j6 f_j6 → RP E G f f_j6 → KP G [9, 4, 20] false f f_j6 → py_W E (va_A (va_pl L f) s.heap.size) s L_j6 f_j6 H_j6 locs → lv_has ls 9 [(6, .int v_1), (5, .int v_2), (0, .ref h), (1, .ref t), (2, .int 2), (3, .int i), (4, .int b)] → W p l e (headSpec w_X4_readChain ({ frames := fr + 1, cells := 0, slots := 0, locals := lo + 60 })).room s m ([.ref h, .ref t, .int 2, .int i, .int b] : List Value).toArray below meth c H_j6 locs 0 0 (MQ below (py_Qi E L f s.heap.size (fun r L1 f1 => (0 ≤ r.toInt ∧ r.toInt ≤ 1) ∧ WF E G L1 f1 ∧ RP E G f f1 ∧ KP G [9, 4, 20] false f f1)) ([.ref h, .ref t, .int 2, .int i, .int b] : List Value).toArray s 0 0 (va_A (va_pl L f) s.heap.size)) (F0 m 6 ls []) := by
    intro n_6
    induction n_6 using Nat.strongRecOn with
    | _ n_6 ih_6 =>
      intro v_1 v_2 L_j6 f_j6 H_j6 locs ls hn_6 bv_1 hWF hRP hKP hw hl
      refine lv_iload G0.1 G0.2.1 dX4_readChain_6 (lv_at hl 0 rfl) ?_
      refine lv_sipush (v := 160) G0.1 G0.2.1 dX4_readChain_8 (by decide) ?_
      refine lv_icmp_ge (tgt := 133) G0.1 G0.2.1 dX4_readChain_11 (by decide) (fun c_3 => ?_) (fun c_3 => ?_)
      · skip
        have tc_3 := ti_le c_3
        refine lv_iconst (v := 0) G0.1 G0.2.1 dX4_readChain_133 (by decide) ?_
        exact py_iret G0 hr rfl hlk hw ⟨⟨by omega, by omega⟩, hWF, hRP, hKP⟩ dX4_readChain_134
      · skip
        have tc_3 := ti_nle c_3
        refine lv_iload G0.1 G0.2.1 dX4_readChain_14 (lv_at hl 6 rfl) ?_
        have jn_29 : ∀ (v_4 : Int32) (H_j29 : Heap) (locs : List Loc) (ls : Array Slot), (0 ≤ v_4.toInt ∧ v_4.toInt ≤ 1) → py_W E (va_A (va_pl L f) s.heap.size) s L_j6 f_j6 H_j29 locs → lv_has ls 9 [(6, .int v_1), (5, .int v_2), (0, .ref h), (1, .ref t), (2, .int 2), (3, .int i), (4, .int b)] → W p l e (headSpec w_X4_readChain ({ frames := fr + 1, cells := 0, slots := 0, locals := lo + 60 })).room s m ([.ref h, .ref t, .int 2, .int i, .int b] : List Value).toArray below meth c H_j29 locs 0 0 (MQ below (py_Qi E L f s.heap.size (fun r L1 f1 => (0 ≤ r.toInt ∧ r.toInt ≤ 1) ∧ WF E G L1 f1 ∧ RP E G f f1 ∧ KP G [9, 4, 20] false f f1)) ([.ref h, .ref t, .int 2, .int i, .int b] : List Value).toArray s 0 0 (va_A (va_pl L f) s.heap.size)) (F0 m 29 ls [.int v_4]) := by
          intro v_4 H_j29 locs ls bv_4 hw hl
          refine lv_istore (lv' := [(7, .int v_4), (6, .int v_1), (5, .int v_2), (0, .ref h), (1, .ref t), (2, .int 2), (3, .int i), (4, .int b)]) G0.1 G0.2.1 dX4_readChain_29 hl (by decide) rfl (fun ls hl => ?_)
          refine lv_iload_n G0.1 G0.2.1 dX4_readChain_31 rfl (lv_at hl 5 rfl) ?_
          refine lv_iconst (v := 1) G0.1 G0.2.1 dX4_readChain_32 (by decide) ?_
          refine lv_icmp_ne (tgt := 49) G0.1 G0.2.1 dX4_readChain_33 (by decide) (fun c_5 => ?_) (fun c_5 => ?_)
          · skip
            have tc_5 := ti_ne c_5
            refine lv_iload_n G0.1 G0.2.1 dX4_readChain_49 rfl (lv_at hl 5 rfl) ?_
            refine lv_iconst (v := 3) G0.1 G0.2.1 dX4_readChain_50 (by decide) ?_
            refine lv_icmp_ne (tgt := 65) G0.1 G0.2.1 dX4_readChain_51 (by decide) (fun c_6 => ?_) (fun c_6 => ?_)
            · skip
              have tc_6 := ti_ne c_6
              refine lv_aload_n G0.1 G0.2.1 dX4_readChain_65 rfl (lv_at hl 3 rfl) ?_
              refine lv_aload_n G0.1 G0.2.1 dX4_readChain_66 rfl (lv_at hl 4 rfl) ?_
              refine lv_iload_n G0.1 G0.2.1 dX4_readChain_67 rfl (lv_at hl 5 rfl) ?_
              refine lv_iconst (v := 1) G0.1 G0.2.1 dX4_readChain_68 (by decide) ?_
              refine lv_iadd G0.1 G0.2.1 dX4_readChain_69 ?_
              rw [show 2 + 1 = (3 : Int32) by decide]
              refine lv_iload_n G0.1 G0.2.1 dX4_readChain_70 rfl (lv_at hl 6 rfl) ?_
              refine lv_iload G0.1 G0.2.1 dX4_readChain_71 (lv_at hl 0 rfl) ?_
              obtain ⟨r_7, hr_9, ty_8⟩ := wg_4 hWF Th
              refine py_calli hw (va_runV (As := [.ref t, .int 3, .int i, .int v_4]) (rest := []) G0 (ih_chain3 L_j6 f_j6 H_j29.size h t i v_4 hWF Th Tt ⟨by omega, by omega⟩ (show wb ≤ i.toInt ∧ i.toInt ≤ 6 by omega)) (cwV 4 G0.2.2.2.2 g_X4_readChain_X4_readChain_39 rfl rfl rfl (by decide +kernel) ⟨(show f_chain3 + 1 ≤ fr + 1 by omega), (show 8 + (9 + 11) + l_chain3 ≤ lo + 60 by omega)⟩) (py_preV hw (C := RX4) (T := TX4) (N := 1) rfl hr_9) rfl rfl hl.1 rfl (lv_room (Nat.le_of_ble_eq_true rfl)) dX4_readChain_73 ⟨(Nat.le_of_ble_eq_true rfl), (Nat.le_of_ble_eq_true rfl)⟩) (fun r_14 L_10 f_11 H_12 locs hp_13 hw => ?_)
              obtain ⟨b_15, hWF, hq_16, kp_17⟩ := hp_13
              have hRP := hRP.trans hq_16
              have hKP := hKP.trans kp_17 (by decide) (by decide)
              have hr_9 := kp_at kp_17 hWF Th (by decide) (by decide) (by decide) hr_9
              refine lv_istore (lv' := [(8, .int r_14), (7, .int v_4), (6, .int v_1), (5, .int v_2), (0, .ref h), (1, .ref t), (2, .int 2), (3, .int i), (4, .int b)]) G0.1 G0.2.1 dX4_readChain_76 hl (by decide) rfl (fun ls hl => ?_)
              refine lv_iload G0.1 G0.2.1 dX4_readChain_78 (lv_at hl 0 rfl) ?_
              refine lv_if_ne (tgt := 85) G0.1 G0.2.1 dX4_readChain_80 (by decide) (fun c_18 => ?_) (fun c_18 => ?_)
              · skip
                have tc_18 := ti_ne c_18
                refine lv_iload G0.1 G0.2.1 dX4_readChain_85 (lv_at hl 2 rfl) ?_
                refine lv_if_le (tgt := 100) G0.1 G0.2.1 dX4_readChain_87 (by decide) (fun c_19 => ?_) (fun c_19 => ?_)
                · skip
                  have tc_19 := ti_le c_19
                  refine lv_aload_n G0.1 G0.2.1 dX4_readChain_100 rfl (lv_at hl 5 rfl) ?_
                  have t_20 := wt_8 hG Tt
                  obtain ⟨v_21, v_22, v_23, hr_26, b_24, b_25⟩ := wg_8 hWF Tt
                  have bv_23 := wf_free v_23
                  have tq_27 := tp_eq hr_26
                  refine py_calli hw (va_runV (As := []) (rest := []) G0 (c_X8_next l E G L_10 f_11 H_12.size t hG hWF Tt) (cwV 0 G0.2.2.2.2 g_X4_readChain_X8_next_35 rfl rfl rfl (by decide +kernel) ⟨(show 0 + 1 ≤ fr + 1 by omega), (show 8 + (1 + 11) + 0 ≤ lo + 60 by omega)⟩) (py_preV hw (C := RX8) (T := TX8) (N := 4) rfl hr_26) rfl rfl hl.1 rfl (lv_room (Nat.le_of_ble_eq_true rfl)) dX4_readChain_101 ⟨(Nat.le_of_ble_eq_true rfl), (Nat.le_of_ble_eq_true rfl)⟩) (fun r_32 L_28 f_29 H_30 locs hp_31 hw => ?_)
                  obtain ⟨en_33, hWF, hq_34, kp_35⟩ := hp_31
                  have hRP := hRP.trans hq_34
                  have hKP := hKP.trans kp_35 (by decide) (by decide)
                  have hr_9 := kp_at kp_35 hWF Th (by decide) (by decide) (by decide) hr_9
                  have br_32 := wf_free r_32
                  refine lv_istore (lv' := [(5, .int r_32), (8, .int r_14), (7, .int v_4), (6, .int v_1), (0, .ref h), (1, .ref t), (2, .int 2), (3, .int i), (4, .int b)]) G0.1 G0.2.1 dX4_readChain_104 hl (by decide) rfl (fun ls hl => ?_)
                  refine lv_iload G0.1 G0.2.1 dX4_readChain_106 (lv_at hl 0 rfl) ?_
                  refine py_calli hw (va_runS (As := [.int r_32]) (rest := []) G0 (c_X4_chainOf l E G L_28 f_29 H_30.size r_32 hG hWF) (va_cwS 1 G0.2.2.2.2 g_X4_readChain_X4_chainOf_62 rfl rfl rfl (by decide +kernel) ⟨(show 0 + 1 ≤ fr + 1 by omega), (show 8 + (1 + 11) + 0 ≤ lo + 60 by omega)⟩) (py_preS hw) rfl rfl hl.1 rfl (lv_room (Nat.le_of_ble_eq_true rfl)) dX4_readChain_108 ⟨(Nat.le_of_ble_eq_true rfl), (Nat.le_of_ble_eq_true rfl)⟩) (fun r_40 L_36 f_37 H_38 locs hp_39 hw => ?_)
                  obtain ⟨b_42, en_41, rfl, rfl⟩ := hp_39
                  refine lv_iload_n G0.1 G0.2.1 dX4_readChain_111 rfl (lv_at hl 6 rfl) ?_
                  refine lv_icmp_eq (tgt := 117) G0.1 G0.2.1 dX4_readChain_112 (by decide) (fun c_43 => ?_) (fun c_43 => ?_)
                  · skip
                    have tc_43 := ti_eq c_43
                    refine lv_aload_n G0.1 G0.2.1 dX4_readChain_117 rfl (lv_at hl 5 rfl) ?_
                    refine lv_dup G0.1 G0.2.1 dX4_readChain_118 rfl ?_
                    obtain ⟨v_44, v_45, v_46, hr_49, b_47, b_48⟩ := wg_8 hWF Tt
                    have bv_46 := wf_free v_46
                    have tq_50 := tp_eq hr_49
                    refine py_get (C := RX8) (T := TX8) (N := 4) (k := 2) (v := .int v_45) G0 hw in_X4_readChain_X8 rfl hr_49 (by decide) (by decide +kernel) rfl dX4_readChain_119 ?_
                    refine lv_iconst (v := 1) G0.1 G0.2.1 dX4_readChain_122 (by decide) ?_
                    refine lv_iadd G0.1 G0.2.1 dX4_readChain_123 ?_
                    refine lv_topi (fun x_51 ex_51 => ?_)
                    first | have tx_51 := ti_add ex_51 (by omega) (by omega) | skip
                    refine py_put (C := RX8) (T := TX8) (N := 4) (k := 2) (v := .int x_51) (fs' := [.ref (G.2 t 0), .int v_44, .int x_51, .int v_46]) (ty0 := tyX8) G0 hw tyX8_ok nmX8 in_X4_readChain_X8 rfl hr_49 (by decide) (by decide +kernel) rfl rfl rfl rfl (Nat.le_of_ble_eq_true rfl) rfl dX4_readChain_124 (fun f_52 H_53 locs h_54 x_55 hw => ?_)
                    have hKP := hKP.upd hWF x_55 Tt (Or.inl (by decide))
                    have hRP := hRP.trans (rp_upd hG hWF x_55 hr_49.2 h_54.2 (rp_code hG Tt (by decide)) rfl)
                    have hWF := wf_upd hWF h_54 x_55 (by rw [Tt]; exact ⟨v_44, x_51, v_46, rfl, ⟨by omega, by omega⟩, ⟨by omega, by omega⟩⟩)
                    have tq_56 := tp_eq h_54
                    have hr_9 := hr_9.ext x_55 (py_ne_kind hr_9 hr_49 (by decide))
                    obtain ⟨x_57, ex_57⟩ : ∃ y : Int32, y = v_1 + 1 := ⟨_, rfl⟩
                    first | have tx_57 := ti_add ex_57 (by omega) (by omega) | skip
                    refine lv_iinc (v := x_57) (lv' := [(6, .int x_57), (5, .int r_32), (8, .int r_14), (7, .int v_4), (0, .ref h), (1, .ref t), (2, .int 2), (3, .int i), (4, .int b)]) G0.1 G0.2.1 dX4_readChain_127 hl (k := 3) rfl (show _ + (1 : Int32) = _ from ex_57.symm) (by decide) rfl (fun ls hl => ?_)
                    refine lv_goto (tgt := 6) G0.1 G0.2.1 dX4_readChain_130 (by decide) ?_
                    exact ih_6 ((2147483647 - x_57.toInt).toNat) (by omega) x_57 r_32 L_28 f_52 _ _ ls rfl ⟨by omega, by omega⟩ hWF hRP hKP hw (lv_sub hl [0, 1, 4, 5, 6, 7, 8] rfl)
                  · skip
                    have tc_43 := ti_ne c_43
                    refine lv_iconst (v := 1) G0.1 G0.2.1 dX4_readChain_115 (by decide) ?_
                    exact py_iret G0 hr rfl hlk hw ⟨⟨by omega, by omega⟩, hWF, hRP, hKP⟩ dX4_readChain_116
                · skip
                  have tc_19 := ti_nle c_19
                  refine lv_aload_n G0.1 G0.2.1 dX4_readChain_90 rfl (lv_at hl 4 rfl) ?_
                  refine py_get (C := RX4) (T := TX4) (N := 1) (k := 0) (v := .ref r_7) G0 hw in_X4_readChain_X4 rfl hr_9 (by decide) (by decide +kernel) rfl dX4_readChain_91 ?_
                  refine lv_iload G0.1 G0.2.1 dX4_readChain_94 (lv_at hl 3 rfl) ?_
                  refine lv_iconst (v := 0) G0.1 G0.2.1 dX4_readChain_96 (by decide) ?_
                  obtain ⟨t_58, t_59⟩ := wt_3 hG ty_8
                  obtain ⟨v_60, hr_62, b_61⟩ := wg_3 hWF ty_8
                  refine py_callv hw (va_runV (As := [.int v_2, .int 0]) (rest := []) G0 (c_X3_add l E G L_10 f_11 H_12.size r_7 v_2 0 hG hWF ty_8) (cwV 2 G0.2.2.2.2 g_X4_readChain_X3_add_46 rfl rfl rfl (by decide +kernel) ⟨(show 0 + 1 ≤ fr + 1 by omega), (show 8 + (3 + 11) + 0 ≤ lo + 60 by omega)⟩) (py_preV hw (C := RX3) (T := TX3) (N := 3) rfl hr_62) rfl rfl hl.1 rfl (lv_room (Nat.le_of_ble_eq_true rfl)) dX4_readChain_97 ⟨(Nat.le_of_ble_eq_true rfl), (Nat.le_of_ble_eq_true rfl)⟩) (fun L_63 f_64 H_65 locs hp_66 hw => ?_)
                  obtain ⟨hWF, hq_68, kp_69⟩ := hp_66
                  have hRP := hRP.trans hq_68
                  have hKP := hKP.trans kp_69 (by decide) (by decide)
                  have hr_9 := kp_at kp_69 hWF Th (by decide) (by decide) (by decide) hr_9
                  refine lv_aload_n G0.1 G0.2.1 dX4_readChain_100 rfl (lv_at hl 5 rfl) ?_
                  have t_70 := wt_8 hG Tt
                  obtain ⟨v_71, v_72, v_73, hr_76, b_74, b_75⟩ := wg_8 hWF Tt
                  have bv_73 := wf_free v_73
                  have tq_77 := tp_eq hr_76
                  refine py_calli hw (va_runV (As := []) (rest := []) G0 (c_X8_next l E G L_63 f_64 H_65.size t hG hWF Tt) (cwV 0 G0.2.2.2.2 g_X4_readChain_X8_next_35 rfl rfl rfl (by decide +kernel) ⟨(show 0 + 1 ≤ fr + 1 by omega), (show 8 + (1 + 11) + 0 ≤ lo + 60 by omega)⟩) (py_preV hw (C := RX8) (T := TX8) (N := 4) rfl hr_76) rfl rfl hl.1 rfl (lv_room (Nat.le_of_ble_eq_true rfl)) dX4_readChain_101 ⟨(Nat.le_of_ble_eq_true rfl), (Nat.le_of_ble_eq_true rfl)⟩) (fun r_82 L_78 f_79 H_80 locs hp_81 hw => ?_)
                  obtain ⟨en_83, hWF, hq_84, kp_85⟩ := hp_81
                  have hRP := hRP.trans hq_84
                  have hKP := hKP.trans kp_85 (by decide) (by decide)
                  have hr_9 := kp_at kp_85 hWF Th (by decide) (by decide) (by decide) hr_9
                  have br_82 := wf_free r_82
                  refine lv_istore (lv' := [(5, .int r_82), (8, .int r_14), (7, .int v_4), (6, .int v_1), (0, .ref h), (1, .ref t), (2, .int 2), (3, .int i), (4, .int b)]) G0.1 G0.2.1 dX4_readChain_104 hl (by decide) rfl (fun ls hl => ?_)
                  refine lv_iload G0.1 G0.2.1 dX4_readChain_106 (lv_at hl 0 rfl) ?_
                  refine py_calli hw (va_runS (As := [.int r_82]) (rest := []) G0 (c_X4_chainOf l E G L_78 f_79 H_80.size r_82 hG hWF) (va_cwS 1 G0.2.2.2.2 g_X4_readChain_X4_chainOf_62 rfl rfl rfl (by decide +kernel) ⟨(show 0 + 1 ≤ fr + 1 by omega), (show 8 + (1 + 11) + 0 ≤ lo + 60 by omega)⟩) (py_preS hw) rfl rfl hl.1 rfl (lv_room (Nat.le_of_ble_eq_true rfl)) dX4_readChain_108 ⟨(Nat.le_of_ble_eq_true rfl), (Nat.le_of_ble_eq_true rfl)⟩) (fun r_90 L_86 f_87 H_88 locs hp_89 hw => ?_)
                  obtain ⟨b_92, en_91, rfl, rfl⟩ := hp_89
                  refine lv_iload_n G0.1 G0.2.1 dX4_readChain_111 rfl (lv_at hl 6 rfl) ?_
                  refine lv_icmp_eq (tgt := 117) G0.1 G0.2.1 dX4_readChain_112 (by decide) (fun c_93 => ?_) (fun c_93 => ?_)
                  · skip
                    have tc_93 := ti_eq c_93
                    refine lv_aload_n G0.1 G0.2.1 dX4_readChain_117 rfl (lv_at hl 5 rfl) ?_
                    refine lv_dup G0.1 G0.2.1 dX4_readChain_118 rfl ?_
                    obtain ⟨v_94, v_95, v_96, hr_99, b_97, b_98⟩ := wg_8 hWF Tt
                    have bv_96 := wf_free v_96
                    have tq_100 := tp_eq hr_99
                    refine py_get (C := RX8) (T := TX8) (N := 4) (k := 2) (v := .int v_95) G0 hw in_X4_readChain_X8 rfl hr_99 (by decide) (by decide +kernel) rfl dX4_readChain_119 ?_
                    refine lv_iconst (v := 1) G0.1 G0.2.1 dX4_readChain_122 (by decide) ?_
                    refine lv_iadd G0.1 G0.2.1 dX4_readChain_123 ?_
                    refine lv_topi (fun x_101 ex_101 => ?_)
                    first | have tx_101 := ti_add ex_101 (by omega) (by omega) | skip
                    refine py_put (C := RX8) (T := TX8) (N := 4) (k := 2) (v := .int x_101) (fs' := [.ref (G.2 t 0), .int v_94, .int x_101, .int v_96]) (ty0 := tyX8) G0 hw tyX8_ok nmX8 in_X4_readChain_X8 rfl hr_99 (by decide) (by decide +kernel) rfl rfl rfl rfl (Nat.le_of_ble_eq_true rfl) rfl dX4_readChain_124 (fun f_102 H_103 locs h_104 x_105 hw => ?_)
                    have hKP := hKP.upd hWF x_105 Tt (Or.inl (by decide))
                    have hRP := hRP.trans (rp_upd hG hWF x_105 hr_99.2 h_104.2 (rp_code hG Tt (by decide)) rfl)
                    have hWF := wf_upd hWF h_104 x_105 (by rw [Tt]; exact ⟨v_94, x_101, v_96, rfl, ⟨by omega, by omega⟩, ⟨by omega, by omega⟩⟩)
                    have tq_106 := tp_eq h_104
                    have hr_9 := hr_9.ext x_105 (py_ne_kind hr_9 hr_99 (by decide))
                    obtain ⟨x_107, ex_107⟩ : ∃ y : Int32, y = v_1 + 1 := ⟨_, rfl⟩
                    first | have tx_107 := ti_add ex_107 (by omega) (by omega) | skip
                    refine lv_iinc (v := x_107) (lv' := [(6, .int x_107), (5, .int r_82), (8, .int r_14), (7, .int v_4), (0, .ref h), (1, .ref t), (2, .int 2), (3, .int i), (4, .int b)]) G0.1 G0.2.1 dX4_readChain_127 hl (k := 3) rfl (show _ + (1 : Int32) = _ from ex_107.symm) (by decide) rfl (fun ls hl => ?_)
                    refine lv_goto (tgt := 6) G0.1 G0.2.1 dX4_readChain_130 (by decide) ?_
                    exact ih_6 ((2147483647 - x_107.toInt).toNat) (by omega) x_107 r_82 L_78 f_102 _ _ ls rfl ⟨by omega, by omega⟩ hWF hRP hKP hw (lv_sub hl [0, 1, 4, 5, 6, 7, 8] rfl)
                  · skip
                    have tc_93 := ti_ne c_93
                    refine lv_iconst (v := 1) G0.1 G0.2.1 dX4_readChain_115 (by decide) ?_
                    exact py_iret G0 hr rfl hlk hw ⟨⟨by omega, by omega⟩, hWF, hRP, hKP⟩ dX4_readChain_116
              · skip
                have tc_18 := ti_eq c_18
                refine lv_iconst (v := 0) G0.1 G0.2.1 dX4_readChain_83 (by decide) ?_
                exact py_iret G0 hr rfl hlk hw ⟨⟨by omega, by omega⟩, hWF, hRP, hKP⟩ dX4_readChain_84
            · skip
              exact absurd c_6 (by decide)
          · skip
            exact absurd c_5 (by decide)
        refine lv_if_eq (tgt := 28) G0.1 G0.2.1 dX4_readChain_16 (by decide) (fun c_108 => ?_) (fun c_108 => ?_)
        · skip
          have tc_108 := ti_eq c_108
          refine lv_iconst (v := 0) G0.1 G0.2.1 dX4_readChain_28 (by decide) ?_
          exact jn_29 0 _ _ ls ⟨by omega, by omega⟩ hw (lv_sub hl [0, 1, 2, 3, 4, 5, 6] rfl)
        · skip
          have tc_108 := ti_ne c_108
          refine lv_iload G0.1 G0.2.1 dX4_readChain_19 (lv_at hl 0 rfl) ?_
          refine lv_if_ne (tgt := 28) G0.1 G0.2.1 dX4_readChain_21 (by decide) (fun c_109 => ?_) (fun c_109 => ?_)
          · skip
            have tc_109 := ti_ne c_109
            refine lv_iconst (v := 0) G0.1 G0.2.1 dX4_readChain_28 (by decide) ?_
            exact jn_29 0 _ _ ls ⟨by omega, by omega⟩ hw (lv_sub hl [0, 1, 2, 3, 4, 5, 6] rfl)
          · skip
            have tc_109 := ti_eq c_109
            refine lv_iconst (v := 1) G0.1 G0.2.1 dX4_readChain_24 (by decide) ?_
            refine lv_goto (tgt := 29) G0.1 G0.2.1 dX4_readChain_25 (by decide) ?_
            exact jn_29 1 _ _ ls ⟨by omega, by omega⟩ hw (lv_sub hl [0, 1, 2, 3, 4, 5, 6] rfl)
  exact lo_6 _ 0 0 L f _ _ ls rfl ⟨by omega, by omega⟩ hWF hRP hKP hw (lv_sub hl [0, 1, 2, 3, 4, 5, 6] rfl)

set_option maxHeartbeats 4000000 in
set_option maxRecDepth 100000 in
theorem k_unit (l : Launch) (E : py_E) (G : wf_G) (hG : GT G) (wb : Int) (hwb : 0 ≤ wb) (fr lo : Nat) (hfr : 10 ≤ fr) (hlo : 300 ≤ lo) (f_nested l_nested : Nat) (x_nested : f_nested ≤ fr) (z_nested : l_nested ≤ lo) (ih_nested : P_nested l E G wb f_nested l_nested) (f_chain2 l_chain2 : Nat) (x_chain2 : f_chain2 ≤ fr) (z_chain2 : l_chain2 ≤ lo) (ih_chain2 : P_chain2 l E G wb f_chain2 l_chain2) : P_unit l E G wb (fr + 1) (lo + 60) := by
  intro L f sz h t i b hWF Th Tt Bb hp0
  refine Met.ofW (cc := cX4_readUnit) (maxL := 6) (ret := (some .boolean)) (by decide) rfl ?_
  intro p e s m args below meth c s₁ B hml hv
  obtain ⟨rfl, rfl, hw⟩ := py_start hv
  have G0 : CallFix p m c cX4_readUnit 6 s _ w_X4_readUnit RX4 := ⟨B.exec, B.bytes, hml, findClass_of_methodNamed B.named, atoms_spec (ws := w_X4_readUnit) B.pre⟩
  have hr := B.returns
  have hlk := B.notSynchronized
  have kcm1 : (-1 : Int32).toInt = -1 := rfl
  have kc0 : (0 : Int32).toInt = 0 := rfl
  have kc1 : (1 : Int32).toInt = 1 := rfl
  have kc2 : (2 : Int32).toInt = 2 := rfl
  have kc33 : (33 : Int32).toInt = 33 := rfl
  have kc40 : (40 : Int32).toInt = 40 := rfl
  have hl := lv_entry ([.ref h, .ref t, .int i, .int b]) (n := 6) (Nat.le_of_ble_eq_true rfl)
  rw [lg_entry_eq]
  generalize (lg_sl ([.ref h, .ref t, .int i, .int b]) ++ List.replicate (6 - (lg_sl ([.ref h, .ref t, .int i, .int b])).length) Slot.unset).toArray = ls at hl ⊢
  have hl : lv_has ls 6 [(0, .ref h), (1, .ref t), (2, .int i), (3, .int b)] := hl
  have hRP : RP E G f f := RP.refl
  have hKP : KP G [9, 4, 20] false f f := KP.refl
  refine lv_iload_n G0.1 G0.2.1 dX4_readUnit_0 rfl (lv_at hl 3 rfl) ?_
  refine lv_if_eq (tgt := 8) G0.1 G0.2.1 dX4_readUnit_1 (by decide) (fun c_1 => ?_) (fun c_1 => ?_)
  · skip
    have tc_1 := ti_eq c_1
    refine lv_aload_n G0.1 G0.2.1 dX4_readUnit_8 rfl (lv_at hl 1 rfl) ?_
    have t_2 := wt_8 hG Tt
    obtain ⟨v_3, v_4, v_5, hr_8, b_6, b_7⟩ := wg_8 hWF Tt
    have bv_5 := wf_free v_5
    have tq_9 := tp_eq hr_8
    refine py_calli hw (va_runV (As := []) (rest := []) G0 (c_X8_next l E G L f s.heap.size t hG hWF Tt) (cwV 0 G0.2.2.2.2 g_X4_readUnit_X8_next_35 rfl rfl rfl (by decide +kernel) ⟨(show 0 + 1 ≤ fr + 1 by omega), (show 8 + (1 + 11) + 0 ≤ lo + 60 by omega)⟩) (py_preV hw (C := RX8) (T := TX8) (N := 4) rfl hr_8) rfl rfl hl.1 rfl (lv_room (Nat.le_of_ble_eq_true rfl)) dX4_readUnit_9 ⟨(Nat.le_of_ble_eq_true rfl), (Nat.le_of_ble_eq_true rfl)⟩) (fun r_14 L_10 f_11 H_12 locs hp_13 hw => ?_)
    obtain ⟨en_15, hWF, hq_16, kp_17⟩ := hp_13
    have hRP := hRP.trans hq_16
    have hKP := hKP.trans kp_17 (by decide) (by decide)
    have br_14 := wf_free r_14
    refine lv_istore (lv' := [(4, .int r_14), (0, .ref h), (1, .ref t), (2, .int i), (3, .int b)]) G0.1 G0.2.1 dX4_readUnit_12 hl (by decide) rfl (fun ls hl => ?_)
    refine lv_iload G0.1 G0.2.1 dX4_readUnit_14 (lv_at hl 0 rfl) ?_
    refine lv_bipush (v := 33) G0.1 G0.2.1 dX4_readUnit_16 (by decide) ?_
    refine lv_icmp_eq (tgt := 28) G0.1 G0.2.1 dX4_readUnit_18 (by decide) (fun c_18 => ?_) (fun c_18 => ?_)
    · skip
      have tc_18 := ti_eq c_18
      refine lv_aload_n G0.1 G0.2.1 dX4_readUnit_28 rfl (lv_at hl 1 rfl) ?_
      refine lv_aload_n G0.1 G0.2.1 dX4_readUnit_29 rfl (lv_at hl 2 rfl) ?_
      refine lv_iload G0.1 G0.2.1 dX4_readUnit_30 (lv_at hl 0 rfl) ?_
      refine lv_iload_n G0.1 G0.2.1 dX4_readUnit_32 rfl (lv_at hl 3 rfl) ?_
      obtain ⟨r_19, hr_21, ty_20⟩ := wg_4 hWF Th
      refine py_calli hw (va_runV (As := [.ref t, .int r_14, .int i]) (rest := []) G0 (ih_nested L_10 f_11 H_12.size h t r_14 i hWF Th Tt (show wb ≤ i.toInt ∧ i.toInt ≤ 6 by omega) (show tp_a f_11 t < tp_l f_11 t by omega)) (cwV 3 G0.2.2.2.2 g_X4_readUnit_X4_readNested_66 rfl rfl rfl (by decide +kernel) ⟨(show f_nested + 1 ≤ fr + 1 by omega), (show 8 + (5 + 11) + l_nested ≤ lo + 60 by omega)⟩) (py_preV hw (C := RX4) (T := TX4) (N := 1) rfl hr_21) rfl rfl hl.1 rfl (lv_room (Nat.le_of_ble_eq_true rfl)) dX4_readUnit_33 ⟨(Nat.le_of_ble_eq_true rfl), (Nat.le_of_ble_eq_true rfl)⟩) (fun r_26 L_22 f_23 H_24 locs hp_25 hw => ?_)
      obtain ⟨b_27, hWF, hq_28, kp_29⟩ := hp_25
      have hRP := hRP.trans hq_28
      have hKP := hKP.trans kp_29 (by decide) (by decide)
      have hr_21 := kp_at kp_29 hWF Th (by decide) (by decide) (by decide) hr_21
      exact py_iret G0 hr (ti_bool (by omega) (by omega)) hlk hw ⟨⟨by omega, by omega⟩, hWF, hRP, hKP⟩ dX4_readUnit_36
    · skip
      have tc_18 := ti_ne c_18
      refine lv_iload G0.1 G0.2.1 dX4_readUnit_21 (lv_at hl 0 rfl) ?_
      refine lv_bipush (v := 40) G0.1 G0.2.1 dX4_readUnit_23 (by decide) ?_
      refine lv_icmp_ne (tgt := 37) G0.1 G0.2.1 dX4_readUnit_25 (by decide) (fun c_30 => ?_) (fun c_30 => ?_)
      · skip
        have tc_30 := ti_ne c_30
        refine lv_iload_n G0.1 G0.2.1 dX4_readUnit_37 rfl (lv_at hl 4 rfl) ?_
        refine lv_if_ne (tgt := 54) G0.1 G0.2.1 dX4_readUnit_38 (by decide) (fun c_31 => ?_) (fun c_31 => ?_)
        · skip
          have tc_31 := ti_ne c_31
          refine lv_aload_n G0.1 G0.2.1 dX4_readUnit_54 rfl (lv_at hl 2 rfl) ?_
          obtain ⟨v_32, v_33, v_34, hr_37, b_35, b_36⟩ := wg_8 hWF Tt
          have bv_34 := wf_free v_34
          have tq_38 := tp_eq hr_37
          refine py_calli hw (va_runV (As := []) (rest := []) G0 (c_X8_next l E G L_10 f_11 H_12.size t hG hWF Tt) (cwV 0 G0.2.2.2.2 g_X4_readUnit_X8_next_35 rfl rfl rfl (by decide +kernel) ⟨(show 0 + 1 ≤ fr + 1 by omega), (show 8 + (1 + 11) + 0 ≤ lo + 60 by omega)⟩) (py_preV hw (C := RX8) (T := TX8) (N := 4) rfl hr_37) rfl rfl hl.1 rfl (lv_room (Nat.le_of_ble_eq_true rfl)) dX4_readUnit_55 ⟨(Nat.le_of_ble_eq_true rfl), (Nat.le_of_ble_eq_true rfl)⟩) (fun r_43 L_39 f_40 H_41 locs hp_42 hw => ?_)
          obtain ⟨en_44, hWF, hq_45, kp_46⟩ := hp_42
          have hRP := hRP.trans hq_45
          have hKP := hKP.trans kp_46 (by decide) (by decide)
          have br_43 := wf_free r_43
          refine lv_istore (lv' := [(5, .int r_43), (4, .int r_14), (0, .ref h), (1, .ref t), (2, .int i), (3, .int b)]) G0.1 G0.2.1 dX4_readUnit_58 hl (by decide) rfl (fun ls hl => ?_)
          refine lv_iload G0.1 G0.2.1 dX4_readUnit_60 (lv_at hl 0 rfl) ?_
          refine py_calli hw (va_runS (As := [.int r_43]) (rest := []) G0 (c_X4_isComparison l E G L_39 f_40 H_41.size r_43 hG hWF) (va_cwS 1 G0.2.2.2.2 g_X4_readUnit_X4_isComparison_43 rfl rfl rfl (by decide +kernel) ⟨(show 0 + 1 ≤ fr + 1 by omega), (show 8 + (1 + 11) + 0 ≤ lo + 60 by omega)⟩) (py_preS hw) rfl rfl hl.1 rfl (lv_room (Nat.le_of_ble_eq_true rfl)) dX4_readUnit_62 ⟨(Nat.le_of_ble_eq_true rfl), (Nat.le_of_ble_eq_true rfl)⟩) (fun r_51 L_47 f_48 H_49 locs hp_50 hw => ?_)
          obtain ⟨b_53, en_52, rfl, rfl⟩ := hp_50
          refine lv_if_ne (tgt := 70) G0.1 G0.2.1 dX4_readUnit_65 (by decide) (fun c_54 => ?_) (fun c_54 => ?_)
          · skip
            have tc_54 := ti_ne c_54
            refine lv_aload_n G0.1 G0.2.1 dX4_readUnit_70 rfl (lv_at hl 3 rfl) ?_
            refine lv_dup G0.1 G0.2.1 dX4_readUnit_71 rfl ?_
            obtain ⟨v_55, v_56, v_57, hr_60, b_58, b_59⟩ := wg_8 hWF Tt
            have bv_57 := wf_free v_57
            have tq_61 := tp_eq hr_60
            refine py_get (C := RX8) (T := TX8) (N := 4) (k := 2) (v := .int v_56) G0 hw in_X4_readUnit_X8 rfl hr_60 (by decide) (by decide +kernel) rfl dX4_readUnit_72 ?_
            refine lv_iconst (v := 1) G0.1 G0.2.1 dX4_readUnit_75 (by decide) ?_
            refine lv_iadd G0.1 G0.2.1 dX4_readUnit_76 ?_
            refine lv_topi (fun x_62 ex_62 => ?_)
            first | have tx_62 := ti_add ex_62 (by omega) (by omega) | skip
            refine py_put (C := RX8) (T := TX8) (N := 4) (k := 2) (v := .int x_62) (fs' := [.ref (G.2 t 0), .int v_55, .int x_62, .int v_57]) (ty0 := tyX8) G0 hw tyX8_ok nmX8 in_X4_readUnit_X8 rfl hr_60 (by decide) (by decide +kernel) rfl rfl rfl rfl (Nat.le_of_ble_eq_true rfl) rfl dX4_readUnit_77 (fun f_63 H_64 locs h_65 x_66 hw => ?_)
            have hKP := hKP.upd hWF x_66 Tt (Or.inl (by decide))
            have hRP := hRP.trans (rp_upd hG hWF x_66 hr_60.2 h_65.2 (rp_code hG Tt (by decide)) rfl)
            have hWF := wf_upd hWF h_65 x_66 (by rw [Tt]; exact ⟨v_55, x_62, v_57, rfl, ⟨by omega, by omega⟩, ⟨by omega, by omega⟩⟩)
            have tq_67 := tp_eq h_65
            refine lv_aload_n G0.1 G0.2.1 dX4_readUnit_80 rfl (lv_at hl 2 rfl) ?_
            refine lv_aload_n G0.1 G0.2.1 dX4_readUnit_81 rfl (lv_at hl 3 rfl) ?_
            refine lv_iconst (v := 2) G0.1 G0.2.1 dX4_readUnit_82 (by decide) ?_
            refine lv_iload_n G0.1 G0.2.1 dX4_readUnit_83 rfl (lv_at hl 4 rfl) ?_
            refine lv_iconst (v := 0) G0.1 G0.2.1 dX4_readUnit_84 (by decide) ?_
            obtain ⟨r_68, hr_70, ty_69⟩ := wg_4 hWF Th
            refine py_calli hw (va_runV (As := [.ref t, .int 2, .int i, .int 0]) (rest := []) G0 (ih_chain2 L_39 f_63 H_64.size h t i 0 hWF Th Tt ⟨by omega, by omega⟩ (show wb ≤ i.toInt ∧ i.toInt ≤ 6 by omega)) (cwV 4 G0.2.2.2.2 g_X4_readUnit_X4_readChain_39 rfl rfl rfl (by decide +kernel) ⟨(show f_chain2 + 1 ≤ fr + 1 by omega), (show 8 + (9 + 11) + l_chain2 ≤ lo + 60 by omega)⟩) (py_preV hw (C := RX4) (T := TX4) (N := 1) rfl hr_70) rfl rfl hl.1 rfl (lv_room (Nat.le_of_ble_eq_true rfl)) dX4_readUnit_85 ⟨(Nat.le_of_ble_eq_true rfl), (Nat.le_of_ble_eq_true rfl)⟩) (fun r_75 L_71 f_72 H_73 locs hp_74 hw => ?_)
            obtain ⟨b_76, hWF, hq_77, kp_78⟩ := hp_74
            have hRP := hRP.trans hq_77
            have hKP := hKP.trans kp_78 (by decide) (by decide)
            have hr_70 := kp_at kp_78 hWF Th (by decide) (by decide) (by decide) hr_70
            refine lv_if_ne (tgt := 93) G0.1 G0.2.1 dX4_readUnit_88 (by decide) (fun c_79 => ?_) (fun c_79 => ?_)
            · skip
              have tc_79 := ti_ne c_79
              refine lv_aload_n G0.1 G0.2.1 dX4_readUnit_93 rfl (lv_at hl 2 rfl) ?_
              refine py_get (C := RX4) (T := TX4) (N := 1) (k := 0) (v := .ref r_68) G0 hw in_X4_readUnit_X4 rfl hr_70 (by decide) (by decide +kernel) rfl dX4_readUnit_94 ?_
              refine lv_iload G0.1 G0.2.1 dX4_readUnit_97 (lv_at hl 0 rfl) ?_
              refine lv_iconst (v := 0) G0.1 G0.2.1 dX4_readUnit_99 (by decide) ?_
              obtain ⟨t_80, t_81⟩ := wt_3 hG ty_69
              obtain ⟨v_82, hr_84, b_83⟩ := wg_3 hWF ty_69
              refine py_callv hw (va_runV (As := [.int r_43, .int 0]) (rest := []) G0 (c_X3_add l E G L_71 f_72 H_73.size r_68 r_43 0 hG hWF ty_69) (cwV 2 G0.2.2.2.2 g_X4_readUnit_X3_add_46 rfl rfl rfl (by decide +kernel) ⟨(show 0 + 1 ≤ fr + 1 by omega), (show 8 + (3 + 11) + 0 ≤ lo + 60 by omega)⟩) (py_preV hw (C := RX3) (T := TX3) (N := 3) rfl hr_84) rfl rfl hl.1 rfl (lv_room (Nat.le_of_ble_eq_true rfl)) dX4_readUnit_100 ⟨(Nat.le_of_ble_eq_true rfl), (Nat.le_of_ble_eq_true rfl)⟩) (fun L_85 f_86 H_87 locs hp_88 hw => ?_)
              obtain ⟨hWF, hq_90, kp_91⟩ := hp_88
              have hRP := hRP.trans hq_90
              have hKP := hKP.trans kp_91 (by decide) (by decide)
              have hr_70 := kp_at kp_91 hWF Th (by decide) (by decide) (by decide) hr_70
              refine lv_iconst (v := 1) G0.1 G0.2.1 dX4_readUnit_103 (by decide) ?_
              exact py_iret G0 hr rfl hlk hw ⟨⟨by omega, by omega⟩, hWF, hRP, hKP⟩ dX4_readUnit_104
            · skip
              have tc_79 := ti_eq c_79
              refine lv_iconst (v := 0) G0.1 G0.2.1 dX4_readUnit_91 (by decide) ?_
              exact py_iret G0 hr rfl hlk hw ⟨⟨by omega, by omega⟩, hWF, hRP, hKP⟩ dX4_readUnit_92
          · skip
            have tc_54 := ti_eq c_54
            refine lv_iconst (v := 0) G0.1 G0.2.1 dX4_readUnit_68 (by decide) ?_
            exact py_iret G0 hr rfl hlk hw ⟨⟨by omega, by omega⟩, hWF, hRP, hKP⟩ dX4_readUnit_69
        · skip
          have tc_31 := ti_eq c_31
          refine lv_aload_n G0.1 G0.2.1 dX4_readUnit_41 rfl (lv_at hl 1 rfl) ?_
          refine lv_aload_n G0.1 G0.2.1 dX4_readUnit_42 rfl (lv_at hl 2 rfl) ?_
          refine lv_iconst (v := 2) G0.1 G0.2.1 dX4_readUnit_43 (by decide) ?_
          refine lv_iload_n G0.1 G0.2.1 dX4_readUnit_44 rfl (lv_at hl 3 rfl) ?_
          refine lv_iconst (v := 0) G0.1 G0.2.1 dX4_readUnit_45 (by decide) ?_
          obtain ⟨r_92, hr_94, ty_93⟩ := wg_4 hWF Th
          refine py_calli hw (va_runV (As := [.ref t, .int 2, .int i, .int 0]) (rest := []) G0 (ih_chain2 L_10 f_11 H_12.size h t i 0 hWF Th Tt ⟨by omega, by omega⟩ (show wb ≤ i.toInt ∧ i.toInt ≤ 6 by omega)) (cwV 4 G0.2.2.2.2 g_X4_readUnit_X4_readChain_39 rfl rfl rfl (by decide +kernel) ⟨(show f_chain2 + 1 ≤ fr + 1 by omega), (show 8 + (9 + 11) + l_chain2 ≤ lo + 60 by omega)⟩) (py_preV hw (C := RX4) (T := TX4) (N := 1) rfl hr_94) rfl rfl hl.1 rfl (lv_room (Nat.le_of_ble_eq_true rfl)) dX4_readUnit_46 ⟨(Nat.le_of_ble_eq_true rfl), (Nat.le_of_ble_eq_true rfl)⟩) (fun r_99 L_95 f_96 H_97 locs hp_98 hw => ?_)
          obtain ⟨b_100, hWF, hq_101, kp_102⟩ := hp_98
          have hRP := hRP.trans hq_101
          have hKP := hKP.trans kp_102 (by decide) (by decide)
          have hr_94 := kp_at kp_102 hWF Th (by decide) (by decide) (by decide) hr_94
          refine lv_if_ne (tgt := 54) G0.1 G0.2.1 dX4_readUnit_49 (by decide) (fun c_103 => ?_) (fun c_103 => ?_)
          · skip
            have tc_103 := ti_ne c_103
            refine lv_aload_n G0.1 G0.2.1 dX4_readUnit_54 rfl (lv_at hl 2 rfl) ?_
            obtain ⟨v_104, v_105, v_106, hr_109, b_107, b_108⟩ := wg_8 hWF Tt
            have bv_106 := wf_free v_106
            have tq_110 := tp_eq hr_109
            refine py_calli hw (va_runV (As := []) (rest := []) G0 (c_X8_next l E G L_95 f_96 H_97.size t hG hWF Tt) (cwV 0 G0.2.2.2.2 g_X4_readUnit_X8_next_35 rfl rfl rfl (by decide +kernel) ⟨(show 0 + 1 ≤ fr + 1 by omega), (show 8 + (1 + 11) + 0 ≤ lo + 60 by omega)⟩) (py_preV hw (C := RX8) (T := TX8) (N := 4) rfl hr_109) rfl rfl hl.1 rfl (lv_room (Nat.le_of_ble_eq_true rfl)) dX4_readUnit_55 ⟨(Nat.le_of_ble_eq_true rfl), (Nat.le_of_ble_eq_true rfl)⟩) (fun r_115 L_111 f_112 H_113 locs hp_114 hw => ?_)
            obtain ⟨en_116, hWF, hq_117, kp_118⟩ := hp_114
            have hRP := hRP.trans hq_117
            have hKP := hKP.trans kp_118 (by decide) (by decide)
            have hr_94 := kp_at kp_118 hWF Th (by decide) (by decide) (by decide) hr_94
            have br_115 := wf_free r_115
            refine lv_istore (lv' := [(5, .int r_115), (4, .int r_14), (0, .ref h), (1, .ref t), (2, .int i), (3, .int b)]) G0.1 G0.2.1 dX4_readUnit_58 hl (by decide) rfl (fun ls hl => ?_)
            refine lv_iload G0.1 G0.2.1 dX4_readUnit_60 (lv_at hl 0 rfl) ?_
            refine py_calli hw (va_runS (As := [.int r_115]) (rest := []) G0 (c_X4_isComparison l E G L_111 f_112 H_113.size r_115 hG hWF) (va_cwS 1 G0.2.2.2.2 g_X4_readUnit_X4_isComparison_43 rfl rfl rfl (by decide +kernel) ⟨(show 0 + 1 ≤ fr + 1 by omega), (show 8 + (1 + 11) + 0 ≤ lo + 60 by omega)⟩) (py_preS hw) rfl rfl hl.1 rfl (lv_room (Nat.le_of_ble_eq_true rfl)) dX4_readUnit_62 ⟨(Nat.le_of_ble_eq_true rfl), (Nat.le_of_ble_eq_true rfl)⟩) (fun r_123 L_119 f_120 H_121 locs hp_122 hw => ?_)
            obtain ⟨b_125, en_124, rfl, rfl⟩ := hp_122
            refine lv_if_ne (tgt := 70) G0.1 G0.2.1 dX4_readUnit_65 (by decide) (fun c_126 => ?_) (fun c_126 => ?_)
            · skip
              have tc_126 := ti_ne c_126
              refine lv_aload_n G0.1 G0.2.1 dX4_readUnit_70 rfl (lv_at hl 3 rfl) ?_
              refine lv_dup G0.1 G0.2.1 dX4_readUnit_71 rfl ?_
              obtain ⟨v_127, v_128, v_129, hr_132, b_130, b_131⟩ := wg_8 hWF Tt
              have bv_129 := wf_free v_129
              have tq_133 := tp_eq hr_132
              refine py_get (C := RX8) (T := TX8) (N := 4) (k := 2) (v := .int v_128) G0 hw in_X4_readUnit_X8 rfl hr_132 (by decide) (by decide +kernel) rfl dX4_readUnit_72 ?_
              refine lv_iconst (v := 1) G0.1 G0.2.1 dX4_readUnit_75 (by decide) ?_
              refine lv_iadd G0.1 G0.2.1 dX4_readUnit_76 ?_
              refine lv_topi (fun x_134 ex_134 => ?_)
              first | have tx_134 := ti_add ex_134 (by omega) (by omega) | skip
              refine py_put (C := RX8) (T := TX8) (N := 4) (k := 2) (v := .int x_134) (fs' := [.ref (G.2 t 0), .int v_127, .int x_134, .int v_129]) (ty0 := tyX8) G0 hw tyX8_ok nmX8 in_X4_readUnit_X8 rfl hr_132 (by decide) (by decide +kernel) rfl rfl rfl rfl (Nat.le_of_ble_eq_true rfl) rfl dX4_readUnit_77 (fun f_135 H_136 locs h_137 x_138 hw => ?_)
              have hKP := hKP.upd hWF x_138 Tt (Or.inl (by decide))
              have hRP := hRP.trans (rp_upd hG hWF x_138 hr_132.2 h_137.2 (rp_code hG Tt (by decide)) rfl)
              have hWF := wf_upd hWF h_137 x_138 (by rw [Tt]; exact ⟨v_127, x_134, v_129, rfl, ⟨by omega, by omega⟩, ⟨by omega, by omega⟩⟩)
              have tq_139 := tp_eq h_137
              have hr_94 := hr_94.ext x_138 (py_ne_kind hr_94 hr_132 (by decide))
              refine lv_aload_n G0.1 G0.2.1 dX4_readUnit_80 rfl (lv_at hl 2 rfl) ?_
              refine lv_aload_n G0.1 G0.2.1 dX4_readUnit_81 rfl (lv_at hl 3 rfl) ?_
              refine lv_iconst (v := 2) G0.1 G0.2.1 dX4_readUnit_82 (by decide) ?_
              refine lv_iload_n G0.1 G0.2.1 dX4_readUnit_83 rfl (lv_at hl 4 rfl) ?_
              refine lv_iconst (v := 0) G0.1 G0.2.1 dX4_readUnit_84 (by decide) ?_
              refine py_calli hw (va_runV (As := [.ref t, .int 2, .int i, .int 0]) (rest := []) G0 (ih_chain2 L_111 f_135 H_136.size h t i 0 hWF Th Tt ⟨by omega, by omega⟩ (show wb ≤ i.toInt ∧ i.toInt ≤ 6 by omega)) (cwV 4 G0.2.2.2.2 g_X4_readUnit_X4_readChain_39 rfl rfl rfl (by decide +kernel) ⟨(show f_chain2 + 1 ≤ fr + 1 by omega), (show 8 + (9 + 11) + l_chain2 ≤ lo + 60 by omega)⟩) (py_preV hw (C := RX4) (T := TX4) (N := 1) rfl hr_94) rfl rfl hl.1 rfl (lv_room (Nat.le_of_ble_eq_true rfl)) dX4_readUnit_85 ⟨(Nat.le_of_ble_eq_true rfl), (Nat.le_of_ble_eq_true rfl)⟩) (fun r_144 L_140 f_141 H_142 locs hp_143 hw => ?_)
              obtain ⟨b_145, hWF, hq_146, kp_147⟩ := hp_143
              have hRP := hRP.trans hq_146
              have hKP := hKP.trans kp_147 (by decide) (by decide)
              have hr_94 := kp_at kp_147 hWF Th (by decide) (by decide) (by decide) hr_94
              refine lv_if_ne (tgt := 93) G0.1 G0.2.1 dX4_readUnit_88 (by decide) (fun c_148 => ?_) (fun c_148 => ?_)
              · skip
                have tc_148 := ti_ne c_148
                refine lv_aload_n G0.1 G0.2.1 dX4_readUnit_93 rfl (lv_at hl 2 rfl) ?_
                refine py_get (C := RX4) (T := TX4) (N := 1) (k := 0) (v := .ref r_92) G0 hw in_X4_readUnit_X4 rfl hr_94 (by decide) (by decide +kernel) rfl dX4_readUnit_94 ?_
                refine lv_iload G0.1 G0.2.1 dX4_readUnit_97 (lv_at hl 0 rfl) ?_
                refine lv_iconst (v := 0) G0.1 G0.2.1 dX4_readUnit_99 (by decide) ?_
                obtain ⟨t_149, t_150⟩ := wt_3 hG ty_93
                obtain ⟨v_151, hr_153, b_152⟩ := wg_3 hWF ty_93
                refine py_callv hw (va_runV (As := [.int r_115, .int 0]) (rest := []) G0 (c_X3_add l E G L_140 f_141 H_142.size r_92 r_115 0 hG hWF ty_93) (cwV 2 G0.2.2.2.2 g_X4_readUnit_X3_add_46 rfl rfl rfl (by decide +kernel) ⟨(show 0 + 1 ≤ fr + 1 by omega), (show 8 + (3 + 11) + 0 ≤ lo + 60 by omega)⟩) (py_preV hw (C := RX3) (T := TX3) (N := 3) rfl hr_153) rfl rfl hl.1 rfl (lv_room (Nat.le_of_ble_eq_true rfl)) dX4_readUnit_100 ⟨(Nat.le_of_ble_eq_true rfl), (Nat.le_of_ble_eq_true rfl)⟩) (fun L_154 f_155 H_156 locs hp_157 hw => ?_)
                obtain ⟨hWF, hq_159, kp_160⟩ := hp_157
                have hRP := hRP.trans hq_159
                have hKP := hKP.trans kp_160 (by decide) (by decide)
                have hr_94 := kp_at kp_160 hWF Th (by decide) (by decide) (by decide) hr_94
                refine lv_iconst (v := 1) G0.1 G0.2.1 dX4_readUnit_103 (by decide) ?_
                exact py_iret G0 hr rfl hlk hw ⟨⟨by omega, by omega⟩, hWF, hRP, hKP⟩ dX4_readUnit_104
              · skip
                have tc_148 := ti_eq c_148
                refine lv_iconst (v := 0) G0.1 G0.2.1 dX4_readUnit_91 (by decide) ?_
                exact py_iret G0 hr rfl hlk hw ⟨⟨by omega, by omega⟩, hWF, hRP, hKP⟩ dX4_readUnit_92
            · skip
              have tc_126 := ti_eq c_126
              refine lv_iconst (v := 0) G0.1 G0.2.1 dX4_readUnit_68 (by decide) ?_
              exact py_iret G0 hr rfl hlk hw ⟨⟨by omega, by omega⟩, hWF, hRP, hKP⟩ dX4_readUnit_69
          · skip
            have tc_103 := ti_eq c_103
            refine lv_iconst (v := 0) G0.1 G0.2.1 dX4_readUnit_52 (by decide) ?_
            exact py_iret G0 hr rfl hlk hw ⟨⟨by omega, by omega⟩, hWF, hRP, hKP⟩ dX4_readUnit_53
      · skip
        have tc_30 := ti_eq c_30
        refine lv_aload_n G0.1 G0.2.1 dX4_readUnit_28 rfl (lv_at hl 1 rfl) ?_
        refine lv_aload_n G0.1 G0.2.1 dX4_readUnit_29 rfl (lv_at hl 2 rfl) ?_
        refine lv_iload G0.1 G0.2.1 dX4_readUnit_30 (lv_at hl 0 rfl) ?_
        refine lv_iload_n G0.1 G0.2.1 dX4_readUnit_32 rfl (lv_at hl 3 rfl) ?_
        obtain ⟨r_161, hr_163, ty_162⟩ := wg_4 hWF Th
        refine py_calli hw (va_runV (As := [.ref t, .int r_14, .int i]) (rest := []) G0 (ih_nested L_10 f_11 H_12.size h t r_14 i hWF Th Tt (show wb ≤ i.toInt ∧ i.toInt ≤ 6 by omega) (show tp_a f_11 t < tp_l f_11 t by omega)) (cwV 3 G0.2.2.2.2 g_X4_readUnit_X4_readNested_66 rfl rfl rfl (by decide +kernel) ⟨(show f_nested + 1 ≤ fr + 1 by omega), (show 8 + (5 + 11) + l_nested ≤ lo + 60 by omega)⟩) (py_preV hw (C := RX4) (T := TX4) (N := 1) rfl hr_163) rfl rfl hl.1 rfl (lv_room (Nat.le_of_ble_eq_true rfl)) dX4_readUnit_33 ⟨(Nat.le_of_ble_eq_true rfl), (Nat.le_of_ble_eq_true rfl)⟩) (fun r_168 L_164 f_165 H_166 locs hp_167 hw => ?_)
        obtain ⟨b_169, hWF, hq_170, kp_171⟩ := hp_167
        have hRP := hRP.trans hq_170
        have hKP := hKP.trans kp_171 (by decide) (by decide)
        have hr_163 := kp_at kp_171 hWF Th (by decide) (by decide) (by decide) hr_163
        exact py_iret G0 hr (ti_bool (by omega) (by omega)) hlk hw ⟨⟨by omega, by omega⟩, hWF, hRP, hKP⟩ dX4_readUnit_36
  · skip
    have tc_1 := ti_ne c_1
    refine lv_iconst (v := 0) G0.1 G0.2.1 dX4_readUnit_4 (by decide) ?_
    refine lv_goto (tgt := 12) G0.1 G0.2.1 dX4_readUnit_5 (by decide) ?_
    refine lv_istore (lv' := [(4, .int 0), (0, .ref h), (1, .ref t), (2, .int i), (3, .int b)]) G0.1 G0.2.1 dX4_readUnit_12 hl (by decide) rfl (fun ls hl => ?_)
    refine lv_iload G0.1 G0.2.1 dX4_readUnit_14 (lv_at hl 0 rfl) ?_
    refine lv_bipush (v := 33) G0.1 G0.2.1 dX4_readUnit_16 (by decide) ?_
    refine lv_icmp_eq (tgt := 28) G0.1 G0.2.1 dX4_readUnit_18 (by decide) (fun c_172 => ?_) (fun c_172 => ?_)
    · skip
      exact absurd c_172 (by decide)
    · skip
      have tc_172 := ti_ne c_172
      refine lv_iload G0.1 G0.2.1 dX4_readUnit_21 (lv_at hl 0 rfl) ?_
      refine lv_bipush (v := 40) G0.1 G0.2.1 dX4_readUnit_23 (by decide) ?_
      refine lv_icmp_ne (tgt := 37) G0.1 G0.2.1 dX4_readUnit_25 (by decide) (fun c_173 => ?_) (fun c_173 => ?_)
      · skip
        have tc_173 := ti_ne c_173
        refine lv_iload_n G0.1 G0.2.1 dX4_readUnit_37 rfl (lv_at hl 4 rfl) ?_
        refine lv_if_ne (tgt := 54) G0.1 G0.2.1 dX4_readUnit_38 (by decide) (fun c_174 => ?_) (fun c_174 => ?_)
        · skip
          have tc_174 := ti_ne c_174
          refine lv_aload_n G0.1 G0.2.1 dX4_readUnit_54 rfl (lv_at hl 2 rfl) ?_
          have t_175 := wt_8 hG Tt
          obtain ⟨v_176, v_177, v_178, hr_181, b_179, b_180⟩ := wg_8 hWF Tt
          have bv_178 := wf_free v_178
          have tq_182 := tp_eq hr_181
          refine py_calli hw (va_runV (As := []) (rest := []) G0 (c_X8_next l E G L f s.heap.size t hG hWF Tt) (cwV 0 G0.2.2.2.2 g_X4_readUnit_X8_next_35 rfl rfl rfl (by decide +kernel) ⟨(show 0 + 1 ≤ fr + 1 by omega), (show 8 + (1 + 11) + 0 ≤ lo + 60 by omega)⟩) (py_preV hw (C := RX8) (T := TX8) (N := 4) rfl hr_181) rfl rfl hl.1 rfl (lv_room (Nat.le_of_ble_eq_true rfl)) dX4_readUnit_55 ⟨(Nat.le_of_ble_eq_true rfl), (Nat.le_of_ble_eq_true rfl)⟩) (fun r_187 L_183 f_184 H_185 locs hp_186 hw => ?_)
          obtain ⟨en_188, hWF, hq_189, kp_190⟩ := hp_186
          have hRP := hRP.trans hq_189
          have hKP := hKP.trans kp_190 (by decide) (by decide)
          have br_187 := wf_free r_187
          refine lv_istore (lv' := [(5, .int r_187), (4, .int 0), (0, .ref h), (1, .ref t), (2, .int i), (3, .int b)]) G0.1 G0.2.1 dX4_readUnit_58 hl (by decide) rfl (fun ls hl => ?_)
          refine lv_iload G0.1 G0.2.1 dX4_readUnit_60 (lv_at hl 0 rfl) ?_
          refine py_calli hw (va_runS (As := [.int r_187]) (rest := []) G0 (c_X4_isComparison l E G L_183 f_184 H_185.size r_187 hG hWF) (va_cwS 1 G0.2.2.2.2 g_X4_readUnit_X4_isComparison_43 rfl rfl rfl (by decide +kernel) ⟨(show 0 + 1 ≤ fr + 1 by omega), (show 8 + (1 + 11) + 0 ≤ lo + 60 by omega)⟩) (py_preS hw) rfl rfl hl.1 rfl (lv_room (Nat.le_of_ble_eq_true rfl)) dX4_readUnit_62 ⟨(Nat.le_of_ble_eq_true rfl), (Nat.le_of_ble_eq_true rfl)⟩) (fun r_195 L_191 f_192 H_193 locs hp_194 hw => ?_)
          obtain ⟨b_197, en_196, rfl, rfl⟩ := hp_194
          refine lv_if_ne (tgt := 70) G0.1 G0.2.1 dX4_readUnit_65 (by decide) (fun c_198 => ?_) (fun c_198 => ?_)
          · skip
            have tc_198 := ti_ne c_198
            refine lv_aload_n G0.1 G0.2.1 dX4_readUnit_70 rfl (lv_at hl 3 rfl) ?_
            refine lv_dup G0.1 G0.2.1 dX4_readUnit_71 rfl ?_
            obtain ⟨v_199, v_200, v_201, hr_204, b_202, b_203⟩ := wg_8 hWF Tt
            have bv_201 := wf_free v_201
            have tq_205 := tp_eq hr_204
            refine py_get (C := RX8) (T := TX8) (N := 4) (k := 2) (v := .int v_200) G0 hw in_X4_readUnit_X8 rfl hr_204 (by decide) (by decide +kernel) rfl dX4_readUnit_72 ?_
            refine lv_iconst (v := 1) G0.1 G0.2.1 dX4_readUnit_75 (by decide) ?_
            refine lv_iadd G0.1 G0.2.1 dX4_readUnit_76 ?_
            refine lv_topi (fun x_206 ex_206 => ?_)
            first | have tx_206 := ti_add ex_206 (by omega) (by omega) | skip
            refine py_put (C := RX8) (T := TX8) (N := 4) (k := 2) (v := .int x_206) (fs' := [.ref (G.2 t 0), .int v_199, .int x_206, .int v_201]) (ty0 := tyX8) G0 hw tyX8_ok nmX8 in_X4_readUnit_X8 rfl hr_204 (by decide) (by decide +kernel) rfl rfl rfl rfl (Nat.le_of_ble_eq_true rfl) rfl dX4_readUnit_77 (fun f_207 H_208 locs h_209 x_210 hw => ?_)
            have hKP := hKP.upd hWF x_210 Tt (Or.inl (by decide))
            have hRP := hRP.trans (rp_upd hG hWF x_210 hr_204.2 h_209.2 (rp_code hG Tt (by decide)) rfl)
            have hWF := wf_upd hWF h_209 x_210 (by rw [Tt]; exact ⟨v_199, x_206, v_201, rfl, ⟨by omega, by omega⟩, ⟨by omega, by omega⟩⟩)
            have tq_211 := tp_eq h_209
            refine lv_aload_n G0.1 G0.2.1 dX4_readUnit_80 rfl (lv_at hl 2 rfl) ?_
            refine lv_aload_n G0.1 G0.2.1 dX4_readUnit_81 rfl (lv_at hl 3 rfl) ?_
            refine lv_iconst (v := 2) G0.1 G0.2.1 dX4_readUnit_82 (by decide) ?_
            refine lv_iload_n G0.1 G0.2.1 dX4_readUnit_83 rfl (lv_at hl 4 rfl) ?_
            refine lv_iconst (v := 0) G0.1 G0.2.1 dX4_readUnit_84 (by decide) ?_
            obtain ⟨r_212, hr_214, ty_213⟩ := wg_4 hWF Th
            refine py_calli hw (va_runV (As := [.ref t, .int 2, .int i, .int 0]) (rest := []) G0 (ih_chain2 L_183 f_207 H_208.size h t i 0 hWF Th Tt ⟨by omega, by omega⟩ (show wb ≤ i.toInt ∧ i.toInt ≤ 6 by omega)) (cwV 4 G0.2.2.2.2 g_X4_readUnit_X4_readChain_39 rfl rfl rfl (by decide +kernel) ⟨(show f_chain2 + 1 ≤ fr + 1 by omega), (show 8 + (9 + 11) + l_chain2 ≤ lo + 60 by omega)⟩) (py_preV hw (C := RX4) (T := TX4) (N := 1) rfl hr_214) rfl rfl hl.1 rfl (lv_room (Nat.le_of_ble_eq_true rfl)) dX4_readUnit_85 ⟨(Nat.le_of_ble_eq_true rfl), (Nat.le_of_ble_eq_true rfl)⟩) (fun r_219 L_215 f_216 H_217 locs hp_218 hw => ?_)
            obtain ⟨b_220, hWF, hq_221, kp_222⟩ := hp_218
            have hRP := hRP.trans hq_221
            have hKP := hKP.trans kp_222 (by decide) (by decide)
            have hr_214 := kp_at kp_222 hWF Th (by decide) (by decide) (by decide) hr_214
            refine lv_if_ne (tgt := 93) G0.1 G0.2.1 dX4_readUnit_88 (by decide) (fun c_223 => ?_) (fun c_223 => ?_)
            · skip
              have tc_223 := ti_ne c_223
              refine lv_aload_n G0.1 G0.2.1 dX4_readUnit_93 rfl (lv_at hl 2 rfl) ?_
              refine py_get (C := RX4) (T := TX4) (N := 1) (k := 0) (v := .ref r_212) G0 hw in_X4_readUnit_X4 rfl hr_214 (by decide) (by decide +kernel) rfl dX4_readUnit_94 ?_
              refine lv_iload G0.1 G0.2.1 dX4_readUnit_97 (lv_at hl 0 rfl) ?_
              refine lv_iconst (v := 0) G0.1 G0.2.1 dX4_readUnit_99 (by decide) ?_
              obtain ⟨t_224, t_225⟩ := wt_3 hG ty_213
              obtain ⟨v_226, hr_228, b_227⟩ := wg_3 hWF ty_213
              refine py_callv hw (va_runV (As := [.int r_187, .int 0]) (rest := []) G0 (c_X3_add l E G L_215 f_216 H_217.size r_212 r_187 0 hG hWF ty_213) (cwV 2 G0.2.2.2.2 g_X4_readUnit_X3_add_46 rfl rfl rfl (by decide +kernel) ⟨(show 0 + 1 ≤ fr + 1 by omega), (show 8 + (3 + 11) + 0 ≤ lo + 60 by omega)⟩) (py_preV hw (C := RX3) (T := TX3) (N := 3) rfl hr_228) rfl rfl hl.1 rfl (lv_room (Nat.le_of_ble_eq_true rfl)) dX4_readUnit_100 ⟨(Nat.le_of_ble_eq_true rfl), (Nat.le_of_ble_eq_true rfl)⟩) (fun L_229 f_230 H_231 locs hp_232 hw => ?_)
              obtain ⟨hWF, hq_234, kp_235⟩ := hp_232
              have hRP := hRP.trans hq_234
              have hKP := hKP.trans kp_235 (by decide) (by decide)
              have hr_214 := kp_at kp_235 hWF Th (by decide) (by decide) (by decide) hr_214
              refine lv_iconst (v := 1) G0.1 G0.2.1 dX4_readUnit_103 (by decide) ?_
              exact py_iret G0 hr rfl hlk hw ⟨⟨by omega, by omega⟩, hWF, hRP, hKP⟩ dX4_readUnit_104
            · skip
              have tc_223 := ti_eq c_223
              refine lv_iconst (v := 0) G0.1 G0.2.1 dX4_readUnit_91 (by decide) ?_
              exact py_iret G0 hr rfl hlk hw ⟨⟨by omega, by omega⟩, hWF, hRP, hKP⟩ dX4_readUnit_92
          · skip
            have tc_198 := ti_eq c_198
            refine lv_iconst (v := 0) G0.1 G0.2.1 dX4_readUnit_68 (by decide) ?_
            exact py_iret G0 hr rfl hlk hw ⟨⟨by omega, by omega⟩, hWF, hRP, hKP⟩ dX4_readUnit_69
        · skip
          have tc_174 := ti_eq c_174
          refine lv_aload_n G0.1 G0.2.1 dX4_readUnit_41 rfl (lv_at hl 1 rfl) ?_
          refine lv_aload_n G0.1 G0.2.1 dX4_readUnit_42 rfl (lv_at hl 2 rfl) ?_
          refine lv_iconst (v := 2) G0.1 G0.2.1 dX4_readUnit_43 (by decide) ?_
          refine lv_iload_n G0.1 G0.2.1 dX4_readUnit_44 rfl (lv_at hl 3 rfl) ?_
          refine lv_iconst (v := 0) G0.1 G0.2.1 dX4_readUnit_45 (by decide) ?_
          obtain ⟨r_236, hr_238, ty_237⟩ := wg_4 hWF Th
          refine py_calli hw (va_runV (As := [.ref t, .int 2, .int i, .int 0]) (rest := []) G0 (ih_chain2 L f s.heap.size h t i 0 hWF Th Tt ⟨by omega, by omega⟩ (show wb ≤ i.toInt ∧ i.toInt ≤ 6 by omega)) (cwV 4 G0.2.2.2.2 g_X4_readUnit_X4_readChain_39 rfl rfl rfl (by decide +kernel) ⟨(show f_chain2 + 1 ≤ fr + 1 by omega), (show 8 + (9 + 11) + l_chain2 ≤ lo + 60 by omega)⟩) (py_preV hw (C := RX4) (T := TX4) (N := 1) rfl hr_238) rfl rfl hl.1 rfl (lv_room (Nat.le_of_ble_eq_true rfl)) dX4_readUnit_46 ⟨(Nat.le_of_ble_eq_true rfl), (Nat.le_of_ble_eq_true rfl)⟩) (fun r_243 L_239 f_240 H_241 locs hp_242 hw => ?_)
          obtain ⟨b_244, hWF, hq_245, kp_246⟩ := hp_242
          have hRP := hRP.trans hq_245
          have hKP := hKP.trans kp_246 (by decide) (by decide)
          have hr_238 := kp_at kp_246 hWF Th (by decide) (by decide) (by decide) hr_238
          refine lv_if_ne (tgt := 54) G0.1 G0.2.1 dX4_readUnit_49 (by decide) (fun c_247 => ?_) (fun c_247 => ?_)
          · skip
            have tc_247 := ti_ne c_247
            refine lv_aload_n G0.1 G0.2.1 dX4_readUnit_54 rfl (lv_at hl 2 rfl) ?_
            have t_248 := wt_8 hG Tt
            obtain ⟨v_249, v_250, v_251, hr_254, b_252, b_253⟩ := wg_8 hWF Tt
            have bv_251 := wf_free v_251
            have tq_255 := tp_eq hr_254
            refine py_calli hw (va_runV (As := []) (rest := []) G0 (c_X8_next l E G L_239 f_240 H_241.size t hG hWF Tt) (cwV 0 G0.2.2.2.2 g_X4_readUnit_X8_next_35 rfl rfl rfl (by decide +kernel) ⟨(show 0 + 1 ≤ fr + 1 by omega), (show 8 + (1 + 11) + 0 ≤ lo + 60 by omega)⟩) (py_preV hw (C := RX8) (T := TX8) (N := 4) rfl hr_254) rfl rfl hl.1 rfl (lv_room (Nat.le_of_ble_eq_true rfl)) dX4_readUnit_55 ⟨(Nat.le_of_ble_eq_true rfl), (Nat.le_of_ble_eq_true rfl)⟩) (fun r_260 L_256 f_257 H_258 locs hp_259 hw => ?_)
            obtain ⟨en_261, hWF, hq_262, kp_263⟩ := hp_259
            have hRP := hRP.trans hq_262
            have hKP := hKP.trans kp_263 (by decide) (by decide)
            have hr_238 := kp_at kp_263 hWF Th (by decide) (by decide) (by decide) hr_238
            have br_260 := wf_free r_260
            refine lv_istore (lv' := [(5, .int r_260), (4, .int 0), (0, .ref h), (1, .ref t), (2, .int i), (3, .int b)]) G0.1 G0.2.1 dX4_readUnit_58 hl (by decide) rfl (fun ls hl => ?_)
            refine lv_iload G0.1 G0.2.1 dX4_readUnit_60 (lv_at hl 0 rfl) ?_
            refine py_calli hw (va_runS (As := [.int r_260]) (rest := []) G0 (c_X4_isComparison l E G L_256 f_257 H_258.size r_260 hG hWF) (va_cwS 1 G0.2.2.2.2 g_X4_readUnit_X4_isComparison_43 rfl rfl rfl (by decide +kernel) ⟨(show 0 + 1 ≤ fr + 1 by omega), (show 8 + (1 + 11) + 0 ≤ lo + 60 by omega)⟩) (py_preS hw) rfl rfl hl.1 rfl (lv_room (Nat.le_of_ble_eq_true rfl)) dX4_readUnit_62 ⟨(Nat.le_of_ble_eq_true rfl), (Nat.le_of_ble_eq_true rfl)⟩) (fun r_268 L_264 f_265 H_266 locs hp_267 hw => ?_)
            obtain ⟨b_270, en_269, rfl, rfl⟩ := hp_267
            refine lv_if_ne (tgt := 70) G0.1 G0.2.1 dX4_readUnit_65 (by decide) (fun c_271 => ?_) (fun c_271 => ?_)
            · skip
              have tc_271 := ti_ne c_271
              refine lv_aload_n G0.1 G0.2.1 dX4_readUnit_70 rfl (lv_at hl 3 rfl) ?_
              refine lv_dup G0.1 G0.2.1 dX4_readUnit_71 rfl ?_
              obtain ⟨v_272, v_273, v_274, hr_277, b_275, b_276⟩ := wg_8 hWF Tt
              have bv_274 := wf_free v_274
              have tq_278 := tp_eq hr_277
              refine py_get (C := RX8) (T := TX8) (N := 4) (k := 2) (v := .int v_273) G0 hw in_X4_readUnit_X8 rfl hr_277 (by decide) (by decide +kernel) rfl dX4_readUnit_72 ?_
              refine lv_iconst (v := 1) G0.1 G0.2.1 dX4_readUnit_75 (by decide) ?_
              refine lv_iadd G0.1 G0.2.1 dX4_readUnit_76 ?_
              refine lv_topi (fun x_279 ex_279 => ?_)
              first | have tx_279 := ti_add ex_279 (by omega) (by omega) | skip
              refine py_put (C := RX8) (T := TX8) (N := 4) (k := 2) (v := .int x_279) (fs' := [.ref (G.2 t 0), .int v_272, .int x_279, .int v_274]) (ty0 := tyX8) G0 hw tyX8_ok nmX8 in_X4_readUnit_X8 rfl hr_277 (by decide) (by decide +kernel) rfl rfl rfl rfl (Nat.le_of_ble_eq_true rfl) rfl dX4_readUnit_77 (fun f_280 H_281 locs h_282 x_283 hw => ?_)
              have hKP := hKP.upd hWF x_283 Tt (Or.inl (by decide))
              have hRP := hRP.trans (rp_upd hG hWF x_283 hr_277.2 h_282.2 (rp_code hG Tt (by decide)) rfl)
              have hWF := wf_upd hWF h_282 x_283 (by rw [Tt]; exact ⟨v_272, x_279, v_274, rfl, ⟨by omega, by omega⟩, ⟨by omega, by omega⟩⟩)
              have tq_284 := tp_eq h_282
              have hr_238 := hr_238.ext x_283 (py_ne_kind hr_238 hr_277 (by decide))
              refine lv_aload_n G0.1 G0.2.1 dX4_readUnit_80 rfl (lv_at hl 2 rfl) ?_
              refine lv_aload_n G0.1 G0.2.1 dX4_readUnit_81 rfl (lv_at hl 3 rfl) ?_
              refine lv_iconst (v := 2) G0.1 G0.2.1 dX4_readUnit_82 (by decide) ?_
              refine lv_iload_n G0.1 G0.2.1 dX4_readUnit_83 rfl (lv_at hl 4 rfl) ?_
              refine lv_iconst (v := 0) G0.1 G0.2.1 dX4_readUnit_84 (by decide) ?_
              refine py_calli hw (va_runV (As := [.ref t, .int 2, .int i, .int 0]) (rest := []) G0 (ih_chain2 L_256 f_280 H_281.size h t i 0 hWF Th Tt ⟨by omega, by omega⟩ (show wb ≤ i.toInt ∧ i.toInt ≤ 6 by omega)) (cwV 4 G0.2.2.2.2 g_X4_readUnit_X4_readChain_39 rfl rfl rfl (by decide +kernel) ⟨(show f_chain2 + 1 ≤ fr + 1 by omega), (show 8 + (9 + 11) + l_chain2 ≤ lo + 60 by omega)⟩) (py_preV hw (C := RX4) (T := TX4) (N := 1) rfl hr_238) rfl rfl hl.1 rfl (lv_room (Nat.le_of_ble_eq_true rfl)) dX4_readUnit_85 ⟨(Nat.le_of_ble_eq_true rfl), (Nat.le_of_ble_eq_true rfl)⟩) (fun r_289 L_285 f_286 H_287 locs hp_288 hw => ?_)
              obtain ⟨b_290, hWF, hq_291, kp_292⟩ := hp_288
              have hRP := hRP.trans hq_291
              have hKP := hKP.trans kp_292 (by decide) (by decide)
              have hr_238 := kp_at kp_292 hWF Th (by decide) (by decide) (by decide) hr_238
              refine lv_if_ne (tgt := 93) G0.1 G0.2.1 dX4_readUnit_88 (by decide) (fun c_293 => ?_) (fun c_293 => ?_)
              · skip
                have tc_293 := ti_ne c_293
                refine lv_aload_n G0.1 G0.2.1 dX4_readUnit_93 rfl (lv_at hl 2 rfl) ?_
                refine py_get (C := RX4) (T := TX4) (N := 1) (k := 0) (v := .ref r_236) G0 hw in_X4_readUnit_X4 rfl hr_238 (by decide) (by decide +kernel) rfl dX4_readUnit_94 ?_
                refine lv_iload G0.1 G0.2.1 dX4_readUnit_97 (lv_at hl 0 rfl) ?_
                refine lv_iconst (v := 0) G0.1 G0.2.1 dX4_readUnit_99 (by decide) ?_
                obtain ⟨t_294, t_295⟩ := wt_3 hG ty_237
                obtain ⟨v_296, hr_298, b_297⟩ := wg_3 hWF ty_237
                refine py_callv hw (va_runV (As := [.int r_260, .int 0]) (rest := []) G0 (c_X3_add l E G L_285 f_286 H_287.size r_236 r_260 0 hG hWF ty_237) (cwV 2 G0.2.2.2.2 g_X4_readUnit_X3_add_46 rfl rfl rfl (by decide +kernel) ⟨(show 0 + 1 ≤ fr + 1 by omega), (show 8 + (3 + 11) + 0 ≤ lo + 60 by omega)⟩) (py_preV hw (C := RX3) (T := TX3) (N := 3) rfl hr_298) rfl rfl hl.1 rfl (lv_room (Nat.le_of_ble_eq_true rfl)) dX4_readUnit_100 ⟨(Nat.le_of_ble_eq_true rfl), (Nat.le_of_ble_eq_true rfl)⟩) (fun L_299 f_300 H_301 locs hp_302 hw => ?_)
                obtain ⟨hWF, hq_304, kp_305⟩ := hp_302
                have hRP := hRP.trans hq_304
                have hKP := hKP.trans kp_305 (by decide) (by decide)
                have hr_238 := kp_at kp_305 hWF Th (by decide) (by decide) (by decide) hr_238
                refine lv_iconst (v := 1) G0.1 G0.2.1 dX4_readUnit_103 (by decide) ?_
                exact py_iret G0 hr rfl hlk hw ⟨⟨by omega, by omega⟩, hWF, hRP, hKP⟩ dX4_readUnit_104
              · skip
                have tc_293 := ti_eq c_293
                refine lv_iconst (v := 0) G0.1 G0.2.1 dX4_readUnit_91 (by decide) ?_
                exact py_iret G0 hr rfl hlk hw ⟨⟨by omega, by omega⟩, hWF, hRP, hKP⟩ dX4_readUnit_92
            · skip
              have tc_271 := ti_eq c_271
              refine lv_iconst (v := 0) G0.1 G0.2.1 dX4_readUnit_68 (by decide) ?_
              exact py_iret G0 hr rfl hlk hw ⟨⟨by omega, by omega⟩, hWF, hRP, hKP⟩ dX4_readUnit_69
          · skip
            have tc_247 := ti_eq c_247
            refine lv_iconst (v := 0) G0.1 G0.2.1 dX4_readUnit_52 (by decide) ?_
            exact py_iret G0 hr rfl hlk hw ⟨⟨by omega, by omega⟩, hWF, hRP, hKP⟩ dX4_readUnit_53
      · skip
        exact absurd c_173 (by decide)

set_option maxHeartbeats 4000000 in
set_option maxRecDepth 100000 in
theorem k_chain1 (l : Launch) (E : py_E) (G : wf_G) (hG : GT G) (wb : Int) (hwb : 0 ≤ wb) (fr lo : Nat) (hfr : 10 ≤ fr) (hlo : 300 ≤ lo) (f_unit l_unit : Nat) (x_unit : f_unit ≤ fr) (z_unit : l_unit ≤ lo) (ih_unit : P_unit l E G wb f_unit l_unit) : P_chain1 l E G wb (fr + 1) (lo + 60) := by
  intro L f sz h t i b hWF Th Tt Bb hp0
  refine Met.ofW (cc := cX4_readChain) (maxL := 9) (ret := (some .boolean)) (by decide) rfl ?_
  intro p e s m args below meth c s₁ B hml hv
  obtain ⟨rfl, rfl, hw⟩ := py_start hv
  have G0 : CallFix p m c cX4_readChain 9 s _ w_X4_readChain RX4 := ⟨B.exec, B.bytes, hml, findClass_of_methodNamed B.named, atoms_spec (ws := w_X4_readChain) B.pre⟩
  have hr := B.returns
  have hlk := B.notSynchronized
  have kcm1 : (-1 : Int32).toInt = -1 := rfl
  have kc0 : (0 : Int32).toInt = 0 := rfl
  have kc1 : (1 : Int32).toInt = 1 := rfl
  have kc160 : (160 : Int32).toInt = 160 := rfl
  have hl := lv_entry ([.ref h, .ref t, .int 1, .int i, .int b]) (n := 9) (Nat.le_of_ble_eq_true rfl)
  rw [lg_entry_eq]
  generalize (lg_sl ([.ref h, .ref t, .int 1, .int i, .int b]) ++ List.replicate (9 - (lg_sl ([.ref h, .ref t, .int 1, .int i, .int b])).length) Slot.unset).toArray = ls at hl ⊢
  have hl : lv_has ls 9 [(0, .ref h), (1, .ref t), (2, .int 1), (3, .int i), (4, .int b)] := hl
  have hRP : RP E G f f := RP.refl
  have hKP : KP G [9, 4, 20] false f f := KP.refl
  refine lv_iconst (v := 0) G0.1 G0.2.1 dX4_readChain_0 (by decide) ?_
  refine lv_istore (lv' := [(5, .int 0), (0, .ref h), (1, .ref t), (2, .int 1), (3, .int i), (4, .int b)]) G0.1 G0.2.1 dX4_readChain_1 hl (by decide) rfl (fun ls hl => ?_)
  refine lv_iconst (v := 0) G0.1 G0.2.1 dX4_readChain_3 (by decide) ?_
  refine lv_istore (lv' := [(6, .int 0), (5, .int 0), (0, .ref h), (1, .ref t), (2, .int 1), (3, .int i), (4, .int b)]) G0.1 G0.2.1 dX4_readChain_4 hl (by decide) rfl (fun ls hl => ?_)
  have lo_6 : ∀ n_6 : Nat, ∀ (v_1 : Int32) (v_2 : Int32) (L_j6 : List Nat) (f_j6 : py_F) (H_j6 : Heap) (locs : List Loc) (ls : Array Slot), (2147483647 - v_1.toInt).toNat = n_6 → (0 ≤ v_1.toInt ∧ v_1.toInt ≤ 2147483647) → WF E G L_j6 f_j6 → RP E G f f_j6 → KP G [9, 4, 20] false f f_j6 → py_W E (va_A (va_pl L f) s.heap.size) s L_j6 f_j6 H_j6 locs → lv_has ls 9 [(6, .int v_1), (5, .int v_2), (0, .ref h), (1, .ref t), (2, .int 1), (3, .int i), (4, .int b)] → W p l e (headSpec w_X4_readChain ({ frames := fr + 1, cells := 0, slots := 0, locals := lo + 60 })).room s m ([.ref h, .ref t, .int 1, .int i, .int b] : List Value).toArray below meth c H_j6 locs 0 0 (MQ below (py_Qi E L f s.heap.size (fun r L1 f1 => (0 ≤ r.toInt ∧ r.toInt ≤ 1) ∧ WF E G L1 f1 ∧ RP E G f f1 ∧ KP G [9, 4, 20] false f f1)) ([.ref h, .ref t, .int 1, .int i, .int b] : List Value).toArray s 0 0 (va_A (va_pl L f) s.heap.size)) (F0 m 6 ls []) := by
    intro n_6
    induction n_6 using Nat.strongRecOn with
    | _ n_6 ih_6 =>
      intro v_1 v_2 L_j6 f_j6 H_j6 locs ls hn_6 bv_1 hWF hRP hKP hw hl
      refine lv_iload G0.1 G0.2.1 dX4_readChain_6 (lv_at hl 0 rfl) ?_
      refine lv_sipush (v := 160) G0.1 G0.2.1 dX4_readChain_8 (by decide) ?_
      refine lv_icmp_ge (tgt := 133) G0.1 G0.2.1 dX4_readChain_11 (by decide) (fun c_3 => ?_) (fun c_3 => ?_)
      · skip
        have tc_3 := ti_le c_3
        refine lv_iconst (v := 0) G0.1 G0.2.1 dX4_readChain_133 (by decide) ?_
        exact py_iret G0 hr rfl hlk hw ⟨⟨by omega, by omega⟩, hWF, hRP, hKP⟩ dX4_readChain_134
      · skip
        have tc_3 := ti_nle c_3
        refine lv_iload G0.1 G0.2.1 dX4_readChain_14 (lv_at hl 6 rfl) ?_
        have jn_29 : ∀ (v_4 : Int32) (H_j29 : Heap) (locs : List Loc) (ls : Array Slot), (0 ≤ v_4.toInt ∧ v_4.toInt ≤ 1) → py_W E (va_A (va_pl L f) s.heap.size) s L_j6 f_j6 H_j29 locs → lv_has ls 9 [(6, .int v_1), (5, .int v_2), (0, .ref h), (1, .ref t), (2, .int 1), (3, .int i), (4, .int b)] → W p l e (headSpec w_X4_readChain ({ frames := fr + 1, cells := 0, slots := 0, locals := lo + 60 })).room s m ([.ref h, .ref t, .int 1, .int i, .int b] : List Value).toArray below meth c H_j29 locs 0 0 (MQ below (py_Qi E L f s.heap.size (fun r L1 f1 => (0 ≤ r.toInt ∧ r.toInt ≤ 1) ∧ WF E G L1 f1 ∧ RP E G f f1 ∧ KP G [9, 4, 20] false f f1)) ([.ref h, .ref t, .int 1, .int i, .int b] : List Value).toArray s 0 0 (va_A (va_pl L f) s.heap.size)) (F0 m 29 ls [.int v_4]) := by
          intro v_4 H_j29 locs ls bv_4 hw hl
          refine lv_istore (lv' := [(7, .int v_4), (6, .int v_1), (5, .int v_2), (0, .ref h), (1, .ref t), (2, .int 1), (3, .int i), (4, .int b)]) G0.1 G0.2.1 dX4_readChain_29 hl (by decide) rfl (fun ls hl => ?_)
          refine lv_iload_n G0.1 G0.2.1 dX4_readChain_31 rfl (lv_at hl 5 rfl) ?_
          refine lv_iconst (v := 1) G0.1 G0.2.1 dX4_readChain_32 (by decide) ?_
          refine lv_icmp_ne (tgt := 49) G0.1 G0.2.1 dX4_readChain_33 (by decide) (fun c_5 => ?_) (fun c_5 => ?_)
          · skip
            exact absurd c_5 (by decide)
          · skip
            have tc_5 := ti_eq c_5
            refine lv_aload_n G0.1 G0.2.1 dX4_readChain_36 rfl (lv_at hl 3 rfl) ?_
            refine lv_aload_n G0.1 G0.2.1 dX4_readChain_37 rfl (lv_at hl 4 rfl) ?_
            refine lv_iload_n G0.1 G0.2.1 dX4_readChain_38 rfl (lv_at hl 6 rfl) ?_
            refine lv_iload G0.1 G0.2.1 dX4_readChain_39 (lv_at hl 0 rfl) ?_
            obtain ⟨r_6, hr_8, ty_7⟩ := wg_4 hWF Th
            refine py_calli hw (va_runV (As := [.ref t, .int i, .int v_4]) (rest := []) G0 (ih_unit L_j6 f_j6 H_j29.size h t i v_4 hWF Th Tt ⟨by omega, by omega⟩ (show wb ≤ i.toInt ∧ i.toInt ≤ 6 by omega)) (cwV 3 G0.2.2.2.2 g_X4_readChain_X4_readUnit_54 rfl rfl rfl (by decide +kernel) ⟨(show f_unit + 1 ≤ fr + 1 by omega), (show 8 + (6 + 11) + l_unit ≤ lo + 60 by omega)⟩) (py_preV hw (C := RX4) (T := TX4) (N := 1) rfl hr_8) rfl rfl hl.1 rfl (lv_room (Nat.le_of_ble_eq_true rfl)) dX4_readChain_41 ⟨(Nat.le_of_ble_eq_true rfl), (Nat.le_of_ble_eq_true rfl)⟩) (fun r_13 L_9 f_10 H_11 locs hp_12 hw => ?_)
            obtain ⟨b_14, hWF, hq_15, kp_16⟩ := hp_12
            have hRP := hRP.trans hq_15
            have hKP := hKP.trans kp_16 (by decide) (by decide)
            have hr_8 := kp_at kp_16 hWF Th (by decide) (by decide) (by decide) hr_8
            refine lv_istore (lv' := [(8, .int r_13), (7, .int v_4), (6, .int v_1), (5, .int v_2), (0, .ref h), (1, .ref t), (2, .int 1), (3, .int i), (4, .int b)]) G0.1 G0.2.1 dX4_readChain_44 hl (by decide) rfl (fun ls hl => ?_)
            refine lv_goto (tgt := 78) G0.1 G0.2.1 dX4_readChain_46 (by decide) ?_
            refine lv_iload G0.1 G0.2.1 dX4_readChain_78 (lv_at hl 0 rfl) ?_
            refine lv_if_ne (tgt := 85) G0.1 G0.2.1 dX4_readChain_80 (by decide) (fun c_17 => ?_) (fun c_17 => ?_)
            · skip
              have tc_17 := ti_ne c_17
              refine lv_iload G0.1 G0.2.1 dX4_readChain_85 (lv_at hl 2 rfl) ?_
              refine lv_if_le (tgt := 100) G0.1 G0.2.1 dX4_readChain_87 (by decide) (fun c_18 => ?_) (fun c_18 => ?_)
              · skip
                have tc_18 := ti_le c_18
                refine lv_aload_n G0.1 G0.2.1 dX4_readChain_100 rfl (lv_at hl 5 rfl) ?_
                have t_19 := wt_8 hG Tt
                obtain ⟨v_20, v_21, v_22, hr_25, b_23, b_24⟩ := wg_8 hWF Tt
                have bv_22 := wf_free v_22
                have tq_26 := tp_eq hr_25
                refine py_calli hw (va_runV (As := []) (rest := []) G0 (c_X8_next l E G L_9 f_10 H_11.size t hG hWF Tt) (cwV 0 G0.2.2.2.2 g_X4_readChain_X8_next_35 rfl rfl rfl (by decide +kernel) ⟨(show 0 + 1 ≤ fr + 1 by omega), (show 8 + (1 + 11) + 0 ≤ lo + 60 by omega)⟩) (py_preV hw (C := RX8) (T := TX8) (N := 4) rfl hr_25) rfl rfl hl.1 rfl (lv_room (Nat.le_of_ble_eq_true rfl)) dX4_readChain_101 ⟨(Nat.le_of_ble_eq_true rfl), (Nat.le_of_ble_eq_true rfl)⟩) (fun r_31 L_27 f_28 H_29 locs hp_30 hw => ?_)
                obtain ⟨en_32, hWF, hq_33, kp_34⟩ := hp_30
                have hRP := hRP.trans hq_33
                have hKP := hKP.trans kp_34 (by decide) (by decide)
                have hr_8 := kp_at kp_34 hWF Th (by decide) (by decide) (by decide) hr_8
                have br_31 := wf_free r_31
                refine lv_istore (lv' := [(5, .int r_31), (8, .int r_13), (7, .int v_4), (6, .int v_1), (0, .ref h), (1, .ref t), (2, .int 1), (3, .int i), (4, .int b)]) G0.1 G0.2.1 dX4_readChain_104 hl (by decide) rfl (fun ls hl => ?_)
                refine lv_iload G0.1 G0.2.1 dX4_readChain_106 (lv_at hl 0 rfl) ?_
                refine py_calli hw (va_runS (As := [.int r_31]) (rest := []) G0 (c_X4_chainOf l E G L_27 f_28 H_29.size r_31 hG hWF) (va_cwS 1 G0.2.2.2.2 g_X4_readChain_X4_chainOf_62 rfl rfl rfl (by decide +kernel) ⟨(show 0 + 1 ≤ fr + 1 by omega), (show 8 + (1 + 11) + 0 ≤ lo + 60 by omega)⟩) (py_preS hw) rfl rfl hl.1 rfl (lv_room (Nat.le_of_ble_eq_true rfl)) dX4_readChain_108 ⟨(Nat.le_of_ble_eq_true rfl), (Nat.le_of_ble_eq_true rfl)⟩) (fun r_39 L_35 f_36 H_37 locs hp_38 hw => ?_)
                obtain ⟨b_41, en_40, rfl, rfl⟩ := hp_38
                refine lv_iload_n G0.1 G0.2.1 dX4_readChain_111 rfl (lv_at hl 6 rfl) ?_
                refine lv_icmp_eq (tgt := 117) G0.1 G0.2.1 dX4_readChain_112 (by decide) (fun c_42 => ?_) (fun c_42 => ?_)
                · skip
                  have tc_42 := ti_eq c_42
                  refine lv_aload_n G0.1 G0.2.1 dX4_readChain_117 rfl (lv_at hl 5 rfl) ?_
                  refine lv_dup G0.1 G0.2.1 dX4_readChain_118 rfl ?_
                  obtain ⟨v_43, v_44, v_45, hr_48, b_46, b_47⟩ := wg_8 hWF Tt
                  have bv_45 := wf_free v_45
                  have tq_49 := tp_eq hr_48
                  refine py_get (C := RX8) (T := TX8) (N := 4) (k := 2) (v := .int v_44) G0 hw in_X4_readChain_X8 rfl hr_48 (by decide) (by decide +kernel) rfl dX4_readChain_119 ?_
                  refine lv_iconst (v := 1) G0.1 G0.2.1 dX4_readChain_122 (by decide) ?_
                  refine lv_iadd G0.1 G0.2.1 dX4_readChain_123 ?_
                  refine lv_topi (fun x_50 ex_50 => ?_)
                  first | have tx_50 := ti_add ex_50 (by omega) (by omega) | skip
                  refine py_put (C := RX8) (T := TX8) (N := 4) (k := 2) (v := .int x_50) (fs' := [.ref (G.2 t 0), .int v_43, .int x_50, .int v_45]) (ty0 := tyX8) G0 hw tyX8_ok nmX8 in_X4_readChain_X8 rfl hr_48 (by decide) (by decide +kernel) rfl rfl rfl rfl (Nat.le_of_ble_eq_true rfl) rfl dX4_readChain_124 (fun f_51 H_52 locs h_53 x_54 hw => ?_)
                  have hKP := hKP.upd hWF x_54 Tt (Or.inl (by decide))
                  have hRP := hRP.trans (rp_upd hG hWF x_54 hr_48.2 h_53.2 (rp_code hG Tt (by decide)) rfl)
                  have hWF := wf_upd hWF h_53 x_54 (by rw [Tt]; exact ⟨v_43, x_50, v_45, rfl, ⟨by omega, by omega⟩, ⟨by omega, by omega⟩⟩)
                  have tq_55 := tp_eq h_53
                  have hr_8 := hr_8.ext x_54 (py_ne_kind hr_8 hr_48 (by decide))
                  obtain ⟨x_56, ex_56⟩ : ∃ y : Int32, y = v_1 + 1 := ⟨_, rfl⟩
                  first | have tx_56 := ti_add ex_56 (by omega) (by omega) | skip
                  refine lv_iinc (v := x_56) (lv' := [(6, .int x_56), (5, .int r_31), (8, .int r_13), (7, .int v_4), (0, .ref h), (1, .ref t), (2, .int 1), (3, .int i), (4, .int b)]) G0.1 G0.2.1 dX4_readChain_127 hl (k := 3) rfl (show _ + (1 : Int32) = _ from ex_56.symm) (by decide) rfl (fun ls hl => ?_)
                  refine lv_goto (tgt := 6) G0.1 G0.2.1 dX4_readChain_130 (by decide) ?_
                  exact ih_6 ((2147483647 - x_56.toInt).toNat) (by omega) x_56 r_31 L_27 f_51 _ _ ls rfl ⟨by omega, by omega⟩ hWF hRP hKP hw (lv_sub hl [0, 1, 4, 5, 6, 7, 8] rfl)
                · skip
                  have tc_42 := ti_ne c_42
                  refine lv_iconst (v := 1) G0.1 G0.2.1 dX4_readChain_115 (by decide) ?_
                  exact py_iret G0 hr rfl hlk hw ⟨⟨by omega, by omega⟩, hWF, hRP, hKP⟩ dX4_readChain_116
              · skip
                have tc_18 := ti_nle c_18
                refine lv_aload_n G0.1 G0.2.1 dX4_readChain_90 rfl (lv_at hl 4 rfl) ?_
                refine py_get (C := RX4) (T := TX4) (N := 1) (k := 0) (v := .ref r_6) G0 hw in_X4_readChain_X4 rfl hr_8 (by decide) (by decide +kernel) rfl dX4_readChain_91 ?_
                refine lv_iload G0.1 G0.2.1 dX4_readChain_94 (lv_at hl 3 rfl) ?_
                refine lv_iconst (v := 0) G0.1 G0.2.1 dX4_readChain_96 (by decide) ?_
                obtain ⟨t_57, t_58⟩ := wt_3 hG ty_7
                obtain ⟨v_59, hr_61, b_60⟩ := wg_3 hWF ty_7
                refine py_callv hw (va_runV (As := [.int v_2, .int 0]) (rest := []) G0 (c_X3_add l E G L_9 f_10 H_11.size r_6 v_2 0 hG hWF ty_7) (cwV 2 G0.2.2.2.2 g_X4_readChain_X3_add_46 rfl rfl rfl (by decide +kernel) ⟨(show 0 + 1 ≤ fr + 1 by omega), (show 8 + (3 + 11) + 0 ≤ lo + 60 by omega)⟩) (py_preV hw (C := RX3) (T := TX3) (N := 3) rfl hr_61) rfl rfl hl.1 rfl (lv_room (Nat.le_of_ble_eq_true rfl)) dX4_readChain_97 ⟨(Nat.le_of_ble_eq_true rfl), (Nat.le_of_ble_eq_true rfl)⟩) (fun L_62 f_63 H_64 locs hp_65 hw => ?_)
                obtain ⟨hWF, hq_67, kp_68⟩ := hp_65
                have hRP := hRP.trans hq_67
                have hKP := hKP.trans kp_68 (by decide) (by decide)
                have hr_8 := kp_at kp_68 hWF Th (by decide) (by decide) (by decide) hr_8
                refine lv_aload_n G0.1 G0.2.1 dX4_readChain_100 rfl (lv_at hl 5 rfl) ?_
                have t_69 := wt_8 hG Tt
                obtain ⟨v_70, v_71, v_72, hr_75, b_73, b_74⟩ := wg_8 hWF Tt
                have bv_72 := wf_free v_72
                have tq_76 := tp_eq hr_75
                refine py_calli hw (va_runV (As := []) (rest := []) G0 (c_X8_next l E G L_62 f_63 H_64.size t hG hWF Tt) (cwV 0 G0.2.2.2.2 g_X4_readChain_X8_next_35 rfl rfl rfl (by decide +kernel) ⟨(show 0 + 1 ≤ fr + 1 by omega), (show 8 + (1 + 11) + 0 ≤ lo + 60 by omega)⟩) (py_preV hw (C := RX8) (T := TX8) (N := 4) rfl hr_75) rfl rfl hl.1 rfl (lv_room (Nat.le_of_ble_eq_true rfl)) dX4_readChain_101 ⟨(Nat.le_of_ble_eq_true rfl), (Nat.le_of_ble_eq_true rfl)⟩) (fun r_81 L_77 f_78 H_79 locs hp_80 hw => ?_)
                obtain ⟨en_82, hWF, hq_83, kp_84⟩ := hp_80
                have hRP := hRP.trans hq_83
                have hKP := hKP.trans kp_84 (by decide) (by decide)
                have hr_8 := kp_at kp_84 hWF Th (by decide) (by decide) (by decide) hr_8
                have br_81 := wf_free r_81
                refine lv_istore (lv' := [(5, .int r_81), (8, .int r_13), (7, .int v_4), (6, .int v_1), (0, .ref h), (1, .ref t), (2, .int 1), (3, .int i), (4, .int b)]) G0.1 G0.2.1 dX4_readChain_104 hl (by decide) rfl (fun ls hl => ?_)
                refine lv_iload G0.1 G0.2.1 dX4_readChain_106 (lv_at hl 0 rfl) ?_
                refine py_calli hw (va_runS (As := [.int r_81]) (rest := []) G0 (c_X4_chainOf l E G L_77 f_78 H_79.size r_81 hG hWF) (va_cwS 1 G0.2.2.2.2 g_X4_readChain_X4_chainOf_62 rfl rfl rfl (by decide +kernel) ⟨(show 0 + 1 ≤ fr + 1 by omega), (show 8 + (1 + 11) + 0 ≤ lo + 60 by omega)⟩) (py_preS hw) rfl rfl hl.1 rfl (lv_room (Nat.le_of_ble_eq_true rfl)) dX4_readChain_108 ⟨(Nat.le_of_ble_eq_true rfl), (Nat.le_of_ble_eq_true rfl)⟩) (fun r_89 L_85 f_86 H_87 locs hp_88 hw => ?_)
                obtain ⟨b_91, en_90, rfl, rfl⟩ := hp_88
                refine lv_iload_n G0.1 G0.2.1 dX4_readChain_111 rfl (lv_at hl 6 rfl) ?_
                refine lv_icmp_eq (tgt := 117) G0.1 G0.2.1 dX4_readChain_112 (by decide) (fun c_92 => ?_) (fun c_92 => ?_)
                · skip
                  have tc_92 := ti_eq c_92
                  refine lv_aload_n G0.1 G0.2.1 dX4_readChain_117 rfl (lv_at hl 5 rfl) ?_
                  refine lv_dup G0.1 G0.2.1 dX4_readChain_118 rfl ?_
                  obtain ⟨v_93, v_94, v_95, hr_98, b_96, b_97⟩ := wg_8 hWF Tt
                  have bv_95 := wf_free v_95
                  have tq_99 := tp_eq hr_98
                  refine py_get (C := RX8) (T := TX8) (N := 4) (k := 2) (v := .int v_94) G0 hw in_X4_readChain_X8 rfl hr_98 (by decide) (by decide +kernel) rfl dX4_readChain_119 ?_
                  refine lv_iconst (v := 1) G0.1 G0.2.1 dX4_readChain_122 (by decide) ?_
                  refine lv_iadd G0.1 G0.2.1 dX4_readChain_123 ?_
                  refine lv_topi (fun x_100 ex_100 => ?_)
                  first | have tx_100 := ti_add ex_100 (by omega) (by omega) | skip
                  refine py_put (C := RX8) (T := TX8) (N := 4) (k := 2) (v := .int x_100) (fs' := [.ref (G.2 t 0), .int v_93, .int x_100, .int v_95]) (ty0 := tyX8) G0 hw tyX8_ok nmX8 in_X4_readChain_X8 rfl hr_98 (by decide) (by decide +kernel) rfl rfl rfl rfl (Nat.le_of_ble_eq_true rfl) rfl dX4_readChain_124 (fun f_101 H_102 locs h_103 x_104 hw => ?_)
                  have hKP := hKP.upd hWF x_104 Tt (Or.inl (by decide))
                  have hRP := hRP.trans (rp_upd hG hWF x_104 hr_98.2 h_103.2 (rp_code hG Tt (by decide)) rfl)
                  have hWF := wf_upd hWF h_103 x_104 (by rw [Tt]; exact ⟨v_93, x_100, v_95, rfl, ⟨by omega, by omega⟩, ⟨by omega, by omega⟩⟩)
                  have tq_105 := tp_eq h_103
                  have hr_8 := hr_8.ext x_104 (py_ne_kind hr_8 hr_98 (by decide))
                  obtain ⟨x_106, ex_106⟩ : ∃ y : Int32, y = v_1 + 1 := ⟨_, rfl⟩
                  first | have tx_106 := ti_add ex_106 (by omega) (by omega) | skip
                  refine lv_iinc (v := x_106) (lv' := [(6, .int x_106), (5, .int r_81), (8, .int r_13), (7, .int v_4), (0, .ref h), (1, .ref t), (2, .int 1), (3, .int i), (4, .int b)]) G0.1 G0.2.1 dX4_readChain_127 hl (k := 3) rfl (show _ + (1 : Int32) = _ from ex_106.symm) (by decide) rfl (fun ls hl => ?_)
                  refine lv_goto (tgt := 6) G0.1 G0.2.1 dX4_readChain_130 (by decide) ?_
                  exact ih_6 ((2147483647 - x_106.toInt).toNat) (by omega) x_106 r_81 L_77 f_101 _ _ ls rfl ⟨by omega, by omega⟩ hWF hRP hKP hw (lv_sub hl [0, 1, 4, 5, 6, 7, 8] rfl)
                · skip
                  have tc_92 := ti_ne c_92
                  refine lv_iconst (v := 1) G0.1 G0.2.1 dX4_readChain_115 (by decide) ?_
                  exact py_iret G0 hr rfl hlk hw ⟨⟨by omega, by omega⟩, hWF, hRP, hKP⟩ dX4_readChain_116
            · skip
              have tc_17 := ti_eq c_17
              refine lv_iconst (v := 0) G0.1 G0.2.1 dX4_readChain_83 (by decide) ?_
              exact py_iret G0 hr rfl hlk hw ⟨⟨by omega, by omega⟩, hWF, hRP, hKP⟩ dX4_readChain_84
        refine lv_if_eq (tgt := 28) G0.1 G0.2.1 dX4_readChain_16 (by decide) (fun c_107 => ?_) (fun c_107 => ?_)
        · skip
          have tc_107 := ti_eq c_107
          refine lv_iconst (v := 0) G0.1 G0.2.1 dX4_readChain_28 (by decide) ?_
          exact jn_29 0 _ _ ls ⟨by omega, by omega⟩ hw (lv_sub hl [0, 1, 2, 3, 4, 5, 6] rfl)
        · skip
          have tc_107 := ti_ne c_107
          refine lv_iload G0.1 G0.2.1 dX4_readChain_19 (lv_at hl 0 rfl) ?_
          refine lv_if_ne (tgt := 28) G0.1 G0.2.1 dX4_readChain_21 (by decide) (fun c_108 => ?_) (fun c_108 => ?_)
          · skip
            have tc_108 := ti_ne c_108
            refine lv_iconst (v := 0) G0.1 G0.2.1 dX4_readChain_28 (by decide) ?_
            exact jn_29 0 _ _ ls ⟨by omega, by omega⟩ hw (lv_sub hl [0, 1, 2, 3, 4, 5, 6] rfl)
          · skip
            have tc_108 := ti_eq c_108
            refine lv_iconst (v := 1) G0.1 G0.2.1 dX4_readChain_24 (by decide) ?_
            refine lv_goto (tgt := 29) G0.1 G0.2.1 dX4_readChain_25 (by decide) ?_
            exact jn_29 1 _ _ ls ⟨by omega, by omega⟩ hw (lv_sub hl [0, 1, 2, 3, 4, 5, 6] rfl)
  exact lo_6 _ 0 0 L f _ _ ls rfl ⟨by omega, by omega⟩ hWF hRP hKP hw (lv_sub hl [0, 1, 2, 3, 4, 5, 6] rfl)

set_option maxHeartbeats 4000000 in
set_option maxRecDepth 100000 in
theorem k_chain0 (l : Launch) (E : py_E) (G : wf_G) (hG : GT G) (wb : Int) (hwb : 0 ≤ wb) (fr lo : Nat) (hfr : 10 ≤ fr) (hlo : 300 ≤ lo) (f_chain1 l_chain1 : Nat) (x_chain1 : f_chain1 ≤ fr) (z_chain1 : l_chain1 ≤ lo) (ih_chain1 : P_chain1 l E G wb f_chain1 l_chain1) : P_chain0 l E G wb (fr + 1) (lo + 60) := by
  intro L f sz h t i b hWF Th Tt Bb hp0
  refine Met.ofW (cc := cX4_readChain) (maxL := 9) (ret := (some .boolean)) (by decide) rfl ?_
  intro p e s m args below meth c s₁ B hml hv
  obtain ⟨rfl, rfl, hw⟩ := py_start hv
  have G0 : CallFix p m c cX4_readChain 9 s _ w_X4_readChain RX4 := ⟨B.exec, B.bytes, hml, findClass_of_methodNamed B.named, atoms_spec (ws := w_X4_readChain) B.pre⟩
  have hr := B.returns
  have hlk := B.notSynchronized
  have kcm1 : (-1 : Int32).toInt = -1 := rfl
  have kc0 : (0 : Int32).toInt = 0 := rfl
  have kc1 : (1 : Int32).toInt = 1 := rfl
  have kc3 : (3 : Int32).toInt = 3 := rfl
  have kc160 : (160 : Int32).toInt = 160 := rfl
  have hl := lv_entry ([.ref h, .ref t, .int 0, .int i, .int b]) (n := 9) (Nat.le_of_ble_eq_true rfl)
  rw [lg_entry_eq]
  generalize (lg_sl ([.ref h, .ref t, .int 0, .int i, .int b]) ++ List.replicate (9 - (lg_sl ([.ref h, .ref t, .int 0, .int i, .int b])).length) Slot.unset).toArray = ls at hl ⊢
  have hl : lv_has ls 9 [(0, .ref h), (1, .ref t), (2, .int 0), (3, .int i), (4, .int b)] := hl
  have hRP : RP E G f f := RP.refl
  have hKP : KP G [9, 4, 20] false f f := KP.refl
  refine lv_iconst (v := 0) G0.1 G0.2.1 dX4_readChain_0 (by decide) ?_
  refine lv_istore (lv' := [(5, .int 0), (0, .ref h), (1, .ref t), (2, .int 0), (3, .int i), (4, .int b)]) G0.1 G0.2.1 dX4_readChain_1 hl (by decide) rfl (fun ls hl => ?_)
  refine lv_iconst (v := 0) G0.1 G0.2.1 dX4_readChain_3 (by decide) ?_
  refine lv_istore (lv' := [(6, .int 0), (5, .int 0), (0, .ref h), (1, .ref t), (2, .int 0), (3, .int i), (4, .int b)]) G0.1 G0.2.1 dX4_readChain_4 hl (by decide) rfl (fun ls hl => ?_)
  have lo_6 : ∀ n_6 : Nat, ∀ (v_1 : Int32) (v_2 : Int32) (L_j6 : List Nat) (f_j6 : py_F) (H_j6 : Heap) (locs : List Loc) (ls : Array Slot), (2147483647 - v_1.toInt).toNat = n_6 → (0 ≤ v_1.toInt ∧ v_1.toInt ≤ 2147483647) → WF E G L_j6 f_j6 → RP E G f f_j6 → KP G [9, 4, 20] false f f_j6 → py_W E (va_A (va_pl L f) s.heap.size) s L_j6 f_j6 H_j6 locs → lv_has ls 9 [(6, .int v_1), (5, .int v_2), (0, .ref h), (1, .ref t), (2, .int 0), (3, .int i), (4, .int b)] → W p l e (headSpec w_X4_readChain ({ frames := fr + 1, cells := 0, slots := 0, locals := lo + 60 })).room s m ([.ref h, .ref t, .int 0, .int i, .int b] : List Value).toArray below meth c H_j6 locs 0 0 (MQ below (py_Qi E L f s.heap.size (fun r L1 f1 => (0 ≤ r.toInt ∧ r.toInt ≤ 1) ∧ WF E G L1 f1 ∧ RP E G f f1 ∧ KP G [9, 4, 20] false f f1)) ([.ref h, .ref t, .int 0, .int i, .int b] : List Value).toArray s 0 0 (va_A (va_pl L f) s.heap.size)) (F0 m 6 ls []) := by
    intro n_6
    induction n_6 using Nat.strongRecOn with
    | _ n_6 ih_6 =>
      intro v_1 v_2 L_j6 f_j6 H_j6 locs ls hn_6 bv_1 hWF hRP hKP hw hl
      refine lv_iload G0.1 G0.2.1 dX4_readChain_6 (lv_at hl 0 rfl) ?_
      refine lv_sipush (v := 160) G0.1 G0.2.1 dX4_readChain_8 (by decide) ?_
      refine lv_icmp_ge (tgt := 133) G0.1 G0.2.1 dX4_readChain_11 (by decide) (fun c_3 => ?_) (fun c_3 => ?_)
      · skip
        have tc_3 := ti_le c_3
        refine lv_iconst (v := 0) G0.1 G0.2.1 dX4_readChain_133 (by decide) ?_
        exact py_iret G0 hr rfl hlk hw ⟨⟨by omega, by omega⟩, hWF, hRP, hKP⟩ dX4_readChain_134
      · skip
        have tc_3 := ti_nle c_3
        refine lv_iload G0.1 G0.2.1 dX4_readChain_14 (lv_at hl 6 rfl) ?_
        have jn_29 : ∀ (v_4 : Int32) (H_j29 : Heap) (locs : List Loc) (ls : Array Slot), (0 ≤ v_4.toInt ∧ v_4.toInt ≤ 1) → py_W E (va_A (va_pl L f) s.heap.size) s L_j6 f_j6 H_j29 locs → lv_has ls 9 [(6, .int v_1), (5, .int v_2), (0, .ref h), (1, .ref t), (2, .int 0), (3, .int i), (4, .int b)] → W p l e (headSpec w_X4_readChain ({ frames := fr + 1, cells := 0, slots := 0, locals := lo + 60 })).room s m ([.ref h, .ref t, .int 0, .int i, .int b] : List Value).toArray below meth c H_j29 locs 0 0 (MQ below (py_Qi E L f s.heap.size (fun r L1 f1 => (0 ≤ r.toInt ∧ r.toInt ≤ 1) ∧ WF E G L1 f1 ∧ RP E G f f1 ∧ KP G [9, 4, 20] false f f1)) ([.ref h, .ref t, .int 0, .int i, .int b] : List Value).toArray s 0 0 (va_A (va_pl L f) s.heap.size)) (F0 m 29 ls [.int v_4]) := by
          intro v_4 H_j29 locs ls bv_4 hw hl
          refine lv_istore (lv' := [(7, .int v_4), (6, .int v_1), (5, .int v_2), (0, .ref h), (1, .ref t), (2, .int 0), (3, .int i), (4, .int b)]) G0.1 G0.2.1 dX4_readChain_29 hl (by decide) rfl (fun ls hl => ?_)
          refine lv_iload_n G0.1 G0.2.1 dX4_readChain_31 rfl (lv_at hl 5 rfl) ?_
          refine lv_iconst (v := 1) G0.1 G0.2.1 dX4_readChain_32 (by decide) ?_
          refine lv_icmp_ne (tgt := 49) G0.1 G0.2.1 dX4_readChain_33 (by decide) (fun c_5 => ?_) (fun c_5 => ?_)
          · skip
            have tc_5 := ti_ne c_5
            refine lv_iload_n G0.1 G0.2.1 dX4_readChain_49 rfl (lv_at hl 5 rfl) ?_
            refine lv_iconst (v := 3) G0.1 G0.2.1 dX4_readChain_50 (by decide) ?_
            refine lv_icmp_ne (tgt := 65) G0.1 G0.2.1 dX4_readChain_51 (by decide) (fun c_6 => ?_) (fun c_6 => ?_)
            · skip
              have tc_6 := ti_ne c_6
              refine lv_aload_n G0.1 G0.2.1 dX4_readChain_65 rfl (lv_at hl 3 rfl) ?_
              refine lv_aload_n G0.1 G0.2.1 dX4_readChain_66 rfl (lv_at hl 4 rfl) ?_
              refine lv_iload_n G0.1 G0.2.1 dX4_readChain_67 rfl (lv_at hl 5 rfl) ?_
              refine lv_iconst (v := 1) G0.1 G0.2.1 dX4_readChain_68 (by decide) ?_
              refine lv_iadd G0.1 G0.2.1 dX4_readChain_69 ?_
              rw [show 0 + 1 = (1 : Int32) by decide]
              refine lv_iload_n G0.1 G0.2.1 dX4_readChain_70 rfl (lv_at hl 6 rfl) ?_
              refine lv_iload G0.1 G0.2.1 dX4_readChain_71 (lv_at hl 0 rfl) ?_
              obtain ⟨r_7, hr_9, ty_8⟩ := wg_4 hWF Th
              refine py_calli hw (va_runV (As := [.ref t, .int 1, .int i, .int v_4]) (rest := []) G0 (ih_chain1 L_j6 f_j6 H_j29.size h t i v_4 hWF Th Tt ⟨by omega, by omega⟩ (show wb ≤ i.toInt ∧ i.toInt ≤ 6 by omega)) (cwV 4 G0.2.2.2.2 g_X4_readChain_X4_readChain_39 rfl rfl rfl (by decide +kernel) ⟨(show f_chain1 + 1 ≤ fr + 1 by omega), (show 8 + (9 + 11) + l_chain1 ≤ lo + 60 by omega)⟩) (py_preV hw (C := RX4) (T := TX4) (N := 1) rfl hr_9) rfl rfl hl.1 rfl (lv_room (Nat.le_of_ble_eq_true rfl)) dX4_readChain_73 ⟨(Nat.le_of_ble_eq_true rfl), (Nat.le_of_ble_eq_true rfl)⟩) (fun r_14 L_10 f_11 H_12 locs hp_13 hw => ?_)
              obtain ⟨b_15, hWF, hq_16, kp_17⟩ := hp_13
              have hRP := hRP.trans hq_16
              have hKP := hKP.trans kp_17 (by decide) (by decide)
              have hr_9 := kp_at kp_17 hWF Th (by decide) (by decide) (by decide) hr_9
              refine lv_istore (lv' := [(8, .int r_14), (7, .int v_4), (6, .int v_1), (5, .int v_2), (0, .ref h), (1, .ref t), (2, .int 0), (3, .int i), (4, .int b)]) G0.1 G0.2.1 dX4_readChain_76 hl (by decide) rfl (fun ls hl => ?_)
              refine lv_iload G0.1 G0.2.1 dX4_readChain_78 (lv_at hl 0 rfl) ?_
              refine lv_if_ne (tgt := 85) G0.1 G0.2.1 dX4_readChain_80 (by decide) (fun c_18 => ?_) (fun c_18 => ?_)
              · skip
                have tc_18 := ti_ne c_18
                refine lv_iload G0.1 G0.2.1 dX4_readChain_85 (lv_at hl 2 rfl) ?_
                refine lv_if_le (tgt := 100) G0.1 G0.2.1 dX4_readChain_87 (by decide) (fun c_19 => ?_) (fun c_19 => ?_)
                · skip
                  have tc_19 := ti_le c_19
                  refine lv_aload_n G0.1 G0.2.1 dX4_readChain_100 rfl (lv_at hl 5 rfl) ?_
                  have t_20 := wt_8 hG Tt
                  obtain ⟨v_21, v_22, v_23, hr_26, b_24, b_25⟩ := wg_8 hWF Tt
                  have bv_23 := wf_free v_23
                  have tq_27 := tp_eq hr_26
                  refine py_calli hw (va_runV (As := []) (rest := []) G0 (c_X8_next l E G L_10 f_11 H_12.size t hG hWF Tt) (cwV 0 G0.2.2.2.2 g_X4_readChain_X8_next_35 rfl rfl rfl (by decide +kernel) ⟨(show 0 + 1 ≤ fr + 1 by omega), (show 8 + (1 + 11) + 0 ≤ lo + 60 by omega)⟩) (py_preV hw (C := RX8) (T := TX8) (N := 4) rfl hr_26) rfl rfl hl.1 rfl (lv_room (Nat.le_of_ble_eq_true rfl)) dX4_readChain_101 ⟨(Nat.le_of_ble_eq_true rfl), (Nat.le_of_ble_eq_true rfl)⟩) (fun r_32 L_28 f_29 H_30 locs hp_31 hw => ?_)
                  obtain ⟨en_33, hWF, hq_34, kp_35⟩ := hp_31
                  have hRP := hRP.trans hq_34
                  have hKP := hKP.trans kp_35 (by decide) (by decide)
                  have hr_9 := kp_at kp_35 hWF Th (by decide) (by decide) (by decide) hr_9
                  have br_32 := wf_free r_32
                  refine lv_istore (lv' := [(5, .int r_32), (8, .int r_14), (7, .int v_4), (6, .int v_1), (0, .ref h), (1, .ref t), (2, .int 0), (3, .int i), (4, .int b)]) G0.1 G0.2.1 dX4_readChain_104 hl (by decide) rfl (fun ls hl => ?_)
                  refine lv_iload G0.1 G0.2.1 dX4_readChain_106 (lv_at hl 0 rfl) ?_
                  refine py_calli hw (va_runS (As := [.int r_32]) (rest := []) G0 (c_X4_chainOf l E G L_28 f_29 H_30.size r_32 hG hWF) (va_cwS 1 G0.2.2.2.2 g_X4_readChain_X4_chainOf_62 rfl rfl rfl (by decide +kernel) ⟨(show 0 + 1 ≤ fr + 1 by omega), (show 8 + (1 + 11) + 0 ≤ lo + 60 by omega)⟩) (py_preS hw) rfl rfl hl.1 rfl (lv_room (Nat.le_of_ble_eq_true rfl)) dX4_readChain_108 ⟨(Nat.le_of_ble_eq_true rfl), (Nat.le_of_ble_eq_true rfl)⟩) (fun r_40 L_36 f_37 H_38 locs hp_39 hw => ?_)
                  obtain ⟨b_42, en_41, rfl, rfl⟩ := hp_39
                  refine lv_iload_n G0.1 G0.2.1 dX4_readChain_111 rfl (lv_at hl 6 rfl) ?_
                  refine lv_icmp_eq (tgt := 117) G0.1 G0.2.1 dX4_readChain_112 (by decide) (fun c_43 => ?_) (fun c_43 => ?_)
                  · skip
                    have tc_43 := ti_eq c_43
                    refine lv_aload_n G0.1 G0.2.1 dX4_readChain_117 rfl (lv_at hl 5 rfl) ?_
                    refine lv_dup G0.1 G0.2.1 dX4_readChain_118 rfl ?_
                    obtain ⟨v_44, v_45, v_46, hr_49, b_47, b_48⟩ := wg_8 hWF Tt
                    have bv_46 := wf_free v_46
                    have tq_50 := tp_eq hr_49
                    refine py_get (C := RX8) (T := TX8) (N := 4) (k := 2) (v := .int v_45) G0 hw in_X4_readChain_X8 rfl hr_49 (by decide) (by decide +kernel) rfl dX4_readChain_119 ?_
                    refine lv_iconst (v := 1) G0.1 G0.2.1 dX4_readChain_122 (by decide) ?_
                    refine lv_iadd G0.1 G0.2.1 dX4_readChain_123 ?_
                    refine lv_topi (fun x_51 ex_51 => ?_)
                    first | have tx_51 := ti_add ex_51 (by omega) (by omega) | skip
                    refine py_put (C := RX8) (T := TX8) (N := 4) (k := 2) (v := .int x_51) (fs' := [.ref (G.2 t 0), .int v_44, .int x_51, .int v_46]) (ty0 := tyX8) G0 hw tyX8_ok nmX8 in_X4_readChain_X8 rfl hr_49 (by decide) (by decide +kernel) rfl rfl rfl rfl (Nat.le_of_ble_eq_true rfl) rfl dX4_readChain_124 (fun f_52 H_53 locs h_54 x_55 hw => ?_)
                    have hKP := hKP.upd hWF x_55 Tt (Or.inl (by decide))
                    have hRP := hRP.trans (rp_upd hG hWF x_55 hr_49.2 h_54.2 (rp_code hG Tt (by decide)) rfl)
                    have hWF := wf_upd hWF h_54 x_55 (by rw [Tt]; exact ⟨v_44, x_51, v_46, rfl, ⟨by omega, by omega⟩, ⟨by omega, by omega⟩⟩)
                    have tq_56 := tp_eq h_54
                    have hr_9 := hr_9.ext x_55 (py_ne_kind hr_9 hr_49 (by decide))
                    obtain ⟨x_57, ex_57⟩ : ∃ y : Int32, y = v_1 + 1 := ⟨_, rfl⟩
                    first | have tx_57 := ti_add ex_57 (by omega) (by omega) | skip
                    refine lv_iinc (v := x_57) (lv' := [(6, .int x_57), (5, .int r_32), (8, .int r_14), (7, .int v_4), (0, .ref h), (1, .ref t), (2, .int 0), (3, .int i), (4, .int b)]) G0.1 G0.2.1 dX4_readChain_127 hl (k := 3) rfl (show _ + (1 : Int32) = _ from ex_57.symm) (by decide) rfl (fun ls hl => ?_)
                    refine lv_goto (tgt := 6) G0.1 G0.2.1 dX4_readChain_130 (by decide) ?_
                    exact ih_6 ((2147483647 - x_57.toInt).toNat) (by omega) x_57 r_32 L_28 f_52 _ _ ls rfl ⟨by omega, by omega⟩ hWF hRP hKP hw (lv_sub hl [0, 1, 4, 5, 6, 7, 8] rfl)
                  · skip
                    have tc_43 := ti_ne c_43
                    refine lv_iconst (v := 1) G0.1 G0.2.1 dX4_readChain_115 (by decide) ?_
                    exact py_iret G0 hr rfl hlk hw ⟨⟨by omega, by omega⟩, hWF, hRP, hKP⟩ dX4_readChain_116
                · skip
                  have tc_19 := ti_nle c_19
                  refine lv_aload_n G0.1 G0.2.1 dX4_readChain_90 rfl (lv_at hl 4 rfl) ?_
                  refine py_get (C := RX4) (T := TX4) (N := 1) (k := 0) (v := .ref r_7) G0 hw in_X4_readChain_X4 rfl hr_9 (by decide) (by decide +kernel) rfl dX4_readChain_91 ?_
                  refine lv_iload G0.1 G0.2.1 dX4_readChain_94 (lv_at hl 3 rfl) ?_
                  refine lv_iconst (v := 0) G0.1 G0.2.1 dX4_readChain_96 (by decide) ?_
                  obtain ⟨t_58, t_59⟩ := wt_3 hG ty_8
                  obtain ⟨v_60, hr_62, b_61⟩ := wg_3 hWF ty_8
                  refine py_callv hw (va_runV (As := [.int v_2, .int 0]) (rest := []) G0 (c_X3_add l E G L_10 f_11 H_12.size r_7 v_2 0 hG hWF ty_8) (cwV 2 G0.2.2.2.2 g_X4_readChain_X3_add_46 rfl rfl rfl (by decide +kernel) ⟨(show 0 + 1 ≤ fr + 1 by omega), (show 8 + (3 + 11) + 0 ≤ lo + 60 by omega)⟩) (py_preV hw (C := RX3) (T := TX3) (N := 3) rfl hr_62) rfl rfl hl.1 rfl (lv_room (Nat.le_of_ble_eq_true rfl)) dX4_readChain_97 ⟨(Nat.le_of_ble_eq_true rfl), (Nat.le_of_ble_eq_true rfl)⟩) (fun L_63 f_64 H_65 locs hp_66 hw => ?_)
                  obtain ⟨hWF, hq_68, kp_69⟩ := hp_66
                  have hRP := hRP.trans hq_68
                  have hKP := hKP.trans kp_69 (by decide) (by decide)
                  have hr_9 := kp_at kp_69 hWF Th (by decide) (by decide) (by decide) hr_9
                  refine lv_aload_n G0.1 G0.2.1 dX4_readChain_100 rfl (lv_at hl 5 rfl) ?_
                  have t_70 := wt_8 hG Tt
                  obtain ⟨v_71, v_72, v_73, hr_76, b_74, b_75⟩ := wg_8 hWF Tt
                  have bv_73 := wf_free v_73
                  have tq_77 := tp_eq hr_76
                  refine py_calli hw (va_runV (As := []) (rest := []) G0 (c_X8_next l E G L_63 f_64 H_65.size t hG hWF Tt) (cwV 0 G0.2.2.2.2 g_X4_readChain_X8_next_35 rfl rfl rfl (by decide +kernel) ⟨(show 0 + 1 ≤ fr + 1 by omega), (show 8 + (1 + 11) + 0 ≤ lo + 60 by omega)⟩) (py_preV hw (C := RX8) (T := TX8) (N := 4) rfl hr_76) rfl rfl hl.1 rfl (lv_room (Nat.le_of_ble_eq_true rfl)) dX4_readChain_101 ⟨(Nat.le_of_ble_eq_true rfl), (Nat.le_of_ble_eq_true rfl)⟩) (fun r_82 L_78 f_79 H_80 locs hp_81 hw => ?_)
                  obtain ⟨en_83, hWF, hq_84, kp_85⟩ := hp_81
                  have hRP := hRP.trans hq_84
                  have hKP := hKP.trans kp_85 (by decide) (by decide)
                  have hr_9 := kp_at kp_85 hWF Th (by decide) (by decide) (by decide) hr_9
                  have br_82 := wf_free r_82
                  refine lv_istore (lv' := [(5, .int r_82), (8, .int r_14), (7, .int v_4), (6, .int v_1), (0, .ref h), (1, .ref t), (2, .int 0), (3, .int i), (4, .int b)]) G0.1 G0.2.1 dX4_readChain_104 hl (by decide) rfl (fun ls hl => ?_)
                  refine lv_iload G0.1 G0.2.1 dX4_readChain_106 (lv_at hl 0 rfl) ?_
                  refine py_calli hw (va_runS (As := [.int r_82]) (rest := []) G0 (c_X4_chainOf l E G L_78 f_79 H_80.size r_82 hG hWF) (va_cwS 1 G0.2.2.2.2 g_X4_readChain_X4_chainOf_62 rfl rfl rfl (by decide +kernel) ⟨(show 0 + 1 ≤ fr + 1 by omega), (show 8 + (1 + 11) + 0 ≤ lo + 60 by omega)⟩) (py_preS hw) rfl rfl hl.1 rfl (lv_room (Nat.le_of_ble_eq_true rfl)) dX4_readChain_108 ⟨(Nat.le_of_ble_eq_true rfl), (Nat.le_of_ble_eq_true rfl)⟩) (fun r_90 L_86 f_87 H_88 locs hp_89 hw => ?_)
                  obtain ⟨b_92, en_91, rfl, rfl⟩ := hp_89
                  refine lv_iload_n G0.1 G0.2.1 dX4_readChain_111 rfl (lv_at hl 6 rfl) ?_
                  refine lv_icmp_eq (tgt := 117) G0.1 G0.2.1 dX4_readChain_112 (by decide) (fun c_93 => ?_) (fun c_93 => ?_)
                  · skip
                    have tc_93 := ti_eq c_93
                    refine lv_aload_n G0.1 G0.2.1 dX4_readChain_117 rfl (lv_at hl 5 rfl) ?_
                    refine lv_dup G0.1 G0.2.1 dX4_readChain_118 rfl ?_
                    obtain ⟨v_94, v_95, v_96, hr_99, b_97, b_98⟩ := wg_8 hWF Tt
                    have bv_96 := wf_free v_96
                    have tq_100 := tp_eq hr_99
                    refine py_get (C := RX8) (T := TX8) (N := 4) (k := 2) (v := .int v_95) G0 hw in_X4_readChain_X8 rfl hr_99 (by decide) (by decide +kernel) rfl dX4_readChain_119 ?_
                    refine lv_iconst (v := 1) G0.1 G0.2.1 dX4_readChain_122 (by decide) ?_
                    refine lv_iadd G0.1 G0.2.1 dX4_readChain_123 ?_
                    refine lv_topi (fun x_101 ex_101 => ?_)
                    first | have tx_101 := ti_add ex_101 (by omega) (by omega) | skip
                    refine py_put (C := RX8) (T := TX8) (N := 4) (k := 2) (v := .int x_101) (fs' := [.ref (G.2 t 0), .int v_94, .int x_101, .int v_96]) (ty0 := tyX8) G0 hw tyX8_ok nmX8 in_X4_readChain_X8 rfl hr_99 (by decide) (by decide +kernel) rfl rfl rfl rfl (Nat.le_of_ble_eq_true rfl) rfl dX4_readChain_124 (fun f_102 H_103 locs h_104 x_105 hw => ?_)
                    have hKP := hKP.upd hWF x_105 Tt (Or.inl (by decide))
                    have hRP := hRP.trans (rp_upd hG hWF x_105 hr_99.2 h_104.2 (rp_code hG Tt (by decide)) rfl)
                    have hWF := wf_upd hWF h_104 x_105 (by rw [Tt]; exact ⟨v_94, x_101, v_96, rfl, ⟨by omega, by omega⟩, ⟨by omega, by omega⟩⟩)
                    have tq_106 := tp_eq h_104
                    have hr_9 := hr_9.ext x_105 (py_ne_kind hr_9 hr_99 (by decide))
                    obtain ⟨x_107, ex_107⟩ : ∃ y : Int32, y = v_1 + 1 := ⟨_, rfl⟩
                    first | have tx_107 := ti_add ex_107 (by omega) (by omega) | skip
                    refine lv_iinc (v := x_107) (lv' := [(6, .int x_107), (5, .int r_82), (8, .int r_14), (7, .int v_4), (0, .ref h), (1, .ref t), (2, .int 0), (3, .int i), (4, .int b)]) G0.1 G0.2.1 dX4_readChain_127 hl (k := 3) rfl (show _ + (1 : Int32) = _ from ex_107.symm) (by decide) rfl (fun ls hl => ?_)
                    refine lv_goto (tgt := 6) G0.1 G0.2.1 dX4_readChain_130 (by decide) ?_
                    exact ih_6 ((2147483647 - x_107.toInt).toNat) (by omega) x_107 r_82 L_78 f_102 _ _ ls rfl ⟨by omega, by omega⟩ hWF hRP hKP hw (lv_sub hl [0, 1, 4, 5, 6, 7, 8] rfl)
                  · skip
                    have tc_93 := ti_ne c_93
                    refine lv_iconst (v := 1) G0.1 G0.2.1 dX4_readChain_115 (by decide) ?_
                    exact py_iret G0 hr rfl hlk hw ⟨⟨by omega, by omega⟩, hWF, hRP, hKP⟩ dX4_readChain_116
              · skip
                have tc_18 := ti_eq c_18
                refine lv_iconst (v := 0) G0.1 G0.2.1 dX4_readChain_83 (by decide) ?_
                exact py_iret G0 hr rfl hlk hw ⟨⟨by omega, by omega⟩, hWF, hRP, hKP⟩ dX4_readChain_84
            · skip
              exact absurd c_6 (by decide)
          · skip
            exact absurd c_5 (by decide)
        refine lv_if_eq (tgt := 28) G0.1 G0.2.1 dX4_readChain_16 (by decide) (fun c_108 => ?_) (fun c_108 => ?_)
        · skip
          have tc_108 := ti_eq c_108
          refine lv_iconst (v := 0) G0.1 G0.2.1 dX4_readChain_28 (by decide) ?_
          exact jn_29 0 _ _ ls ⟨by omega, by omega⟩ hw (lv_sub hl [0, 1, 2, 3, 4, 5, 6] rfl)
        · skip
          have tc_108 := ti_ne c_108
          refine lv_iload G0.1 G0.2.1 dX4_readChain_19 (lv_at hl 0 rfl) ?_
          refine lv_if_ne (tgt := 28) G0.1 G0.2.1 dX4_readChain_21 (by decide) (fun c_109 => ?_) (fun c_109 => ?_)
          · skip
            have tc_109 := ti_ne c_109
            refine lv_iconst (v := 0) G0.1 G0.2.1 dX4_readChain_28 (by decide) ?_
            exact jn_29 0 _ _ ls ⟨by omega, by omega⟩ hw (lv_sub hl [0, 1, 2, 3, 4, 5, 6] rfl)
          · skip
            have tc_109 := ti_eq c_109
            refine lv_iconst (v := 1) G0.1 G0.2.1 dX4_readChain_24 (by decide) ?_
            refine lv_goto (tgt := 29) G0.1 G0.2.1 dX4_readChain_25 (by decide) ?_
            exact jn_29 1 _ _ ls ⟨by omega, by omega⟩ hw (lv_sub hl [0, 1, 2, 3, 4, 5, 6] rfl)
  exact lo_6 _ 0 0 L f _ _ ls rfl ⟨by omega, by omega⟩ hWF hRP hKP hw (lv_sub hl [0, 1, 2, 3, 4, 5, 6] rfl)

theorem rd_step (l : Launch) (E : py_E) (G : wf_G) (hG : GT G) (wb wc : Int) (hwb : 0 ≤ wb) (hc : wc = wb + 1) (fr lo fu lu f0 l0 f2 l2 : Nat) (hfr : 10 ≤ fr) (hlo : 300 ≤ lo) (a0 : fu ≤ fr) (a1 : lu ≤ lo) (a2 : f0 ≤ fr) (a3 : l0 ≤ lo) (a4 : f2 ≤ fr) (a5 : l2 ≤ lo) (hu : P_unit l E G wc fu lu) (h0 : P_chain0 l E G wc f0 l0) (h2 : P_chain2 l E G wc f2 l2) : P_unit l E G wb (fr + 5) (lo + 300) ∧ P_chain0 l E G wb (fr + 7) (lo + 420) ∧ P_chain2 l E G wb (fr + 4) (lo + 240) := by
  subst hc
  have g_nested : P_nested l E G wb (fr + 1) (lo + 60) := k_nested l E G hG wb (by omega) (fr) (lo) (by omega) (by omega) _ _ (by omega) (by omega) hu _ _ (by omega) (by omega) h0 _ _ (by omega) (by omega) h2
  have g_atom : P_atom l E G wb (fr + 2) (lo + 120) := k_atom l E G hG wb (by omega) (fr + 1) (lo + 60) (by omega) (by omega) _ _ (by omega) (by omega) g_nested
  have g_chain3 : P_chain3 l E G wb (fr + 3) (lo + 180) := k_chain3 l E G hG wb (by omega) (fr + 2) (lo + 120) (by omega) (by omega) _ _ (by omega) (by omega) g_atom
  have g_chain2 : P_chain2 l E G wb (fr + 4) (lo + 240) := k_chain2 l E G hG wb (by omega) (fr + 3) (lo + 180) (by omega) (by omega) _ _ (by omega) (by omega) g_chain3
  have g_unit : P_unit l E G wb (fr + 5) (lo + 300) := k_unit l E G hG wb (by omega) (fr + 4) (lo + 240) (by omega) (by omega) _ _ (by omega) (by omega) g_nested _ _ (by omega) (by omega) g_chain2
  have g_chain1 : P_chain1 l E G wb (fr + 6) (lo + 360) := k_chain1 l E G hG wb (by omega) (fr + 5) (lo + 300) (by omega) (by omega) _ _ (by omega) (by omega) g_unit
  have g_chain0 : P_chain0 l E G wb (fr + 7) (lo + 420) := k_chain0 l E G hG wb (by omega) (fr + 6) (lo + 360) (by omega) (by omega) _ _ (by omega) (by omega) g_chain1
  exact ⟨g_unit, g_chain0, g_chain2⟩
theorem rd_all (l : Launch) (E : py_E) (G : wf_G) (hG : GT G) : P_unit l E G 0 57 3120 ∧ P_chain0 l E G 0 59 3240 ∧ P_chain2 l E G 0 56 3060 := by
  have v_unit : P_unit l E G 7 10 300 := fun L f sz h t i b hWF Th Tt Bb hp0 => absurd hp0.1 (by omega)
  have v_chain0 : P_chain0 l E G 7 10 300 := fun L f sz h t i b hWF Th Tt Bb hp0 => absurd hp0.1 (by omega)
  have v_chain2 : P_chain2 l E G 7 10 300 := fun L f sz h t i b hWF Th Tt Bb hp0 => absurd hp0.1 (by omega)
  have s6 := rd_step l E G hG 6 7 (by omega) rfl 10 300 _ _ _ _ _ _ (by omega) (by omega) (by omega) (by omega) (by omega) (by omega) (by omega) (by omega) v_unit v_chain0 v_chain2
  have s5 := rd_step l E G hG 5 6 (by omega) rfl 17 720 _ _ _ _ _ _ (by omega) (by omega) (by omega) (by omega) (by omega) (by omega) (by omega) (by omega) s6.1 s6.2.1 s6.2.2
  have s4 := rd_step l E G hG 4 5 (by omega) rfl 24 1140 _ _ _ _ _ _ (by omega) (by omega) (by omega) (by omega) (by omega) (by omega) (by omega) (by omega) s5.1 s5.2.1 s5.2.2
  have s3 := rd_step l E G hG 3 4 (by omega) rfl 31 1560 _ _ _ _ _ _ (by omega) (by omega) (by omega) (by omega) (by omega) (by omega) (by omega) (by omega) s4.1 s4.2.1 s4.2.2
  have s2 := rd_step l E G hG 2 3 (by omega) rfl 38 1980 _ _ _ _ _ _ (by omega) (by omega) (by omega) (by omega) (by omega) (by omega) (by omega) (by omega) s3.1 s3.2.1 s3.2.2
  have s1 := rd_step l E G hG 1 2 (by omega) rfl 45 2400 _ _ _ _ _ _ (by omega) (by omega) (by omega) (by omega) (by omega) (by omega) (by omega) (by omega) s2.1 s2.2.1 s2.2.2
  have s0 := rd_step l E G hG 0 1 (by omega) rfl 52 2820 _ _ _ _ _ _ (by omega) (by omega) (by omega) (by omega) (by omega) (by omega) (by omega) (by omega) s1.1 s1.2.1 s1.2.2
  exact s0
theorem rd_chain0 (l : Launch) (E : py_E) (G : wf_G) (hG : GT G) : P_chain0 l E G 0 59 3240 := (rd_all l E G hG).2.1
theorem rd_chain2 (l : Launch) (E : py_E) (G : wf_G) (hG : GT G) : P_chain2 l E G 0 56 3060 := (rd_all l E G hG).2.2
