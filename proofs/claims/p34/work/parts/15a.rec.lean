theorem dX4_readAtom_0 : decode cX4_readAtom 0 = .ok (.aload_n 1, 1) := by decide +kernel
theorem dX4_readAtom_1 : decode cX4_readAtom 1 = .ok (.invokevirtual 35, 3) := by decide +kernel
theorem dX4_readAtom_4 : decode cX4_readAtom 4 = .ok (.istore_n 3, 1) := by decide +kernel
theorem dX4_readAtom_5 : decode cX4_readAtom 5 = .ok (.iload_n 3, 1) := by decide +kernel
theorem dX4_readAtom_6 : decode cX4_readAtom 6 = .ok (.bipush 91, 2) := by decide +kernel
theorem dX4_readAtom_8 : decode cX4_readAtom 8 = .ok (.if_icmp .ne 11, 3) := by decide +kernel
theorem dX4_readAtom_11 : decode cX4_readAtom 11 = .ok (.aload_n 0, 1) := by decide +kernel
theorem dX4_readAtom_12 : decode cX4_readAtom 12 = .ok (.aload_n 1, 1) := by decide +kernel
theorem dX4_readAtom_13 : decode cX4_readAtom 13 = .ok (.iload_n 3, 1) := by decide +kernel
theorem dX4_readAtom_14 : decode cX4_readAtom 14 = .ok (.iload_n 2, 1) := by decide +kernel
theorem dX4_readAtom_15 : decode cX4_readAtom 15 = .ok (.invokevirtual 66, 3) := by decide +kernel
theorem dX4_readAtom_18 : decode cX4_readAtom 18 = .ok (.ireturn, 1) := by decide +kernel
theorem dX4_readAtom_19 : decode cX4_readAtom 19 = .ok (.iconst 0, 1) := by decide +kernel
theorem dX4_readAtom_20 : decode cX4_readAtom 20 = .ok (.istore 4, 2) := by decide +kernel
theorem dX4_readAtom_22 : decode cX4_readAtom 22 = .ok (.iload 4, 2) := by decide +kernel
theorem dX4_readAtom_24 : decode cX4_readAtom 24 = .ok (.getstatic 70, 3) := by decide +kernel
theorem dX4_readAtom_27 : decode cX4_readAtom 27 = .ok (.arraylength, 1) := by decide +kernel
theorem dX4_readAtom_28 : decode cX4_readAtom 28 = .ok (.if_icmp .ge 42, 3) := by decide +kernel
theorem dX4_readAtom_31 : decode cX4_readAtom 31 = .ok (.getstatic 70, 3) := by decide +kernel
theorem dX4_readAtom_34 : decode cX4_readAtom 34 = .ok (.iload 4, 2) := by decide +kernel
theorem dX4_readAtom_36 : decode cX4_readAtom 36 = .ok (.caload, 1) := by decide +kernel
theorem dX4_readAtom_37 : decode cX4_readAtom 37 = .ok (.iload_n 3, 1) := by decide +kernel
theorem dX4_readAtom_38 : decode cX4_readAtom 38 = .ok (.if_icmp .ne 26, 3) := by decide +kernel
theorem dX4_readAtom_41 : decode cX4_readAtom 41 = .ok (.aload_n 1, 1) := by decide +kernel
theorem dX4_readAtom_42 : decode cX4_readAtom 42 = .ok (.dup, 1) := by decide +kernel
theorem dX4_readAtom_43 : decode cX4_readAtom 43 = .ok (.getfield 18, 3) := by decide +kernel
theorem dX4_readAtom_46 : decode cX4_readAtom 46 = .ok (.iconst 1, 1) := by decide +kernel
theorem dX4_readAtom_47 : decode cX4_readAtom 47 = .ok (.iadd, 1) := by decide +kernel
theorem dX4_readAtom_48 : decode cX4_readAtom 48 = .ok (.putfield 18, 3) := by decide +kernel
theorem dX4_readAtom_51 : decode cX4_readAtom 51 = .ok (.aload_n 0, 1) := by decide +kernel
theorem dX4_readAtom_52 : decode cX4_readAtom 52 = .ok (.getfield 12, 3) := by decide +kernel
theorem dX4_readAtom_55 : decode cX4_readAtom 55 = .ok (.bipush 121, 2) := by decide +kernel
theorem dX4_readAtom_57 : decode cX4_readAtom 57 = .ok (.iload 4, 2) := by decide +kernel
theorem dX4_readAtom_59 : decode cX4_readAtom 59 = .ok (.invokevirtual 46, 3) := by decide +kernel
theorem dX4_readAtom_62 : decode cX4_readAtom 62 = .ok (.iconst 1, 1) := by decide +kernel
theorem dX4_readAtom_63 : decode cX4_readAtom 63 = .ok (.ireturn, 1) := by decide +kernel
theorem dX4_readAtom_64 : decode cX4_readAtom 64 = .ok (.iinc 4 1, 3) := by decide +kernel
theorem dX4_readAtom_67 : decode cX4_readAtom 67 = .ok (.goto (-45), 3) := by decide +kernel
theorem dX4_readAtom_70 : decode cX4_readAtom 70 = .ok (.aload_n 1, 1) := by decide +kernel
theorem dX4_readAtom_71 : decode cX4_readAtom 71 = .ok (.iconst 4, 1) := by decide +kernel
theorem dX4_readAtom_72 : decode cX4_readAtom 72 = .ok (.invokevirtual 74, 3) := by decide +kernel
theorem dX4_readAtom_75 : decode cX4_readAtom 75 = .ok (.ifCond .ne 5, 3) := by decide +kernel
theorem dX4_readAtom_78 : decode cX4_readAtom 78 = .ok (.iconst 0, 1) := by decide +kernel
theorem dX4_readAtom_79 : decode cX4_readAtom 79 = .ok (.ireturn, 1) := by decide +kernel
theorem dX4_readAtom_80 : decode cX4_readAtom 80 = .ok (.aload_n 0, 1) := by decide +kernel
theorem dX4_readAtom_81 : decode cX4_readAtom 81 = .ok (.getfield 12, 3) := by decide +kernel
theorem dX4_readAtom_84 : decode cX4_readAtom 84 = .ok (.bipush 48, 2) := by decide +kernel
theorem dX4_readAtom_86 : decode cX4_readAtom 86 = .ok (.aload_n 1, 1) := by decide +kernel
theorem dX4_readAtom_87 : decode cX4_readAtom 87 = .ok (.getfield 77, 3) := by decide +kernel
theorem dX4_readAtom_90 : decode cX4_readAtom 90 = .ok (.invokevirtual 46, 3) := by decide +kernel
theorem dX4_readAtom_93 : decode cX4_readAtom 93 = .ok (.iconst 1, 1) := by decide +kernel
theorem dX4_readAtom_94 : decode cX4_readAtom 94 = .ok (.ireturn, 1) := by decide +kernel
theorem dX4_readChain_0 : decode cX4_readChain 0 = .ok (.iconst 0, 1) := by decide +kernel
theorem dX4_readChain_1 : decode cX4_readChain 1 = .ok (.istore 5, 2) := by decide +kernel
theorem dX4_readChain_3 : decode cX4_readChain 3 = .ok (.iconst 0, 1) := by decide +kernel
theorem dX4_readChain_4 : decode cX4_readChain 4 = .ok (.istore 6, 2) := by decide +kernel
theorem dX4_readChain_6 : decode cX4_readChain 6 = .ok (.iload 6, 2) := by decide +kernel
theorem dX4_readChain_8 : decode cX4_readChain 8 = .ok (.sipush 160, 3) := by decide +kernel
theorem dX4_readChain_11 : decode cX4_readChain 11 = .ok (.if_icmp .ge 122, 3) := by decide +kernel
theorem dX4_readChain_14 : decode cX4_readChain 14 = .ok (.iload 4, 2) := by decide +kernel
theorem dX4_readChain_16 : decode cX4_readChain 16 = .ok (.ifCond .eq 12, 3) := by decide +kernel
theorem dX4_readChain_19 : decode cX4_readChain 19 = .ok (.iload 6, 2) := by decide +kernel
theorem dX4_readChain_21 : decode cX4_readChain 21 = .ok (.ifCond .ne 7, 3) := by decide +kernel
theorem dX4_readChain_24 : decode cX4_readChain 24 = .ok (.iconst 1, 1) := by decide +kernel
theorem dX4_readChain_25 : decode cX4_readChain 25 = .ok (.goto 4, 3) := by decide +kernel
theorem dX4_readChain_28 : decode cX4_readChain 28 = .ok (.iconst 0, 1) := by decide +kernel
theorem dX4_readChain_29 : decode cX4_readChain 29 = .ok (.istore 7, 2) := by decide +kernel
theorem dX4_readChain_31 : decode cX4_readChain 31 = .ok (.iload_n 2, 1) := by decide +kernel
theorem dX4_readChain_32 : decode cX4_readChain 32 = .ok (.iconst 1, 1) := by decide +kernel
theorem dX4_readChain_33 : decode cX4_readChain 33 = .ok (.if_icmp .ne 16, 3) := by decide +kernel
theorem dX4_readChain_36 : decode cX4_readChain 36 = .ok (.aload_n 0, 1) := by decide +kernel
theorem dX4_readChain_37 : decode cX4_readChain 37 = .ok (.aload_n 1, 1) := by decide +kernel
theorem dX4_readChain_38 : decode cX4_readChain 38 = .ok (.iload_n 3, 1) := by decide +kernel
theorem dX4_readChain_39 : decode cX4_readChain 39 = .ok (.iload 7, 2) := by decide +kernel
theorem dX4_readChain_41 : decode cX4_readChain 41 = .ok (.invokevirtual 54, 3) := by decide +kernel
theorem dX4_readChain_44 : decode cX4_readChain 44 = .ok (.istore 8, 2) := by decide +kernel
theorem dX4_readChain_46 : decode cX4_readChain 46 = .ok (.goto 32, 3) := by decide +kernel
theorem dX4_readChain_49 : decode cX4_readChain 49 = .ok (.iload_n 2, 1) := by decide +kernel
theorem dX4_readChain_50 : decode cX4_readChain 50 = .ok (.iconst 3, 1) := by decide +kernel
theorem dX4_readChain_51 : decode cX4_readChain 51 = .ok (.if_icmp .ne 14, 3) := by decide +kernel
theorem dX4_readChain_54 : decode cX4_readChain 54 = .ok (.aload_n 0, 1) := by decide +kernel
theorem dX4_readChain_55 : decode cX4_readChain 55 = .ok (.aload_n 1, 1) := by decide +kernel
theorem dX4_readChain_56 : decode cX4_readChain 56 = .ok (.iload_n 3, 1) := by decide +kernel
theorem dX4_readChain_57 : decode cX4_readChain 57 = .ok (.invokevirtual 58, 3) := by decide +kernel
theorem dX4_readChain_60 : decode cX4_readChain 60 = .ok (.istore 8, 2) := by decide +kernel
theorem dX4_readChain_62 : decode cX4_readChain 62 = .ok (.goto 16, 3) := by decide +kernel
theorem dX4_readChain_65 : decode cX4_readChain 65 = .ok (.aload_n 0, 1) := by decide +kernel
theorem dX4_readChain_66 : decode cX4_readChain 66 = .ok (.aload_n 1, 1) := by decide +kernel
theorem dX4_readChain_67 : decode cX4_readChain 67 = .ok (.iload_n 2, 1) := by decide +kernel
theorem dX4_readChain_68 : decode cX4_readChain 68 = .ok (.iconst 1, 1) := by decide +kernel
theorem dX4_readChain_69 : decode cX4_readChain 69 = .ok (.iadd, 1) := by decide +kernel
theorem dX4_readChain_70 : decode cX4_readChain 70 = .ok (.iload_n 3, 1) := by decide +kernel
theorem dX4_readChain_71 : decode cX4_readChain 71 = .ok (.iload 7, 2) := by decide +kernel
theorem dX4_readChain_73 : decode cX4_readChain 73 = .ok (.invokevirtual 39, 3) := by decide +kernel
theorem dX4_readChain_76 : decode cX4_readChain 76 = .ok (.istore 8, 2) := by decide +kernel
theorem dX4_readChain_78 : decode cX4_readChain 78 = .ok (.iload 8, 2) := by decide +kernel
theorem dX4_readChain_80 : decode cX4_readChain 80 = .ok (.ifCond .ne 5, 3) := by decide +kernel
theorem dX4_readChain_83 : decode cX4_readChain 83 = .ok (.iconst 0, 1) := by decide +kernel
theorem dX4_readChain_84 : decode cX4_readChain 84 = .ok (.ireturn, 1) := by decide +kernel
theorem dX4_readChain_85 : decode cX4_readChain 85 = .ok (.iload 6, 2) := by decide +kernel
theorem dX4_readChain_87 : decode cX4_readChain 87 = .ok (.ifCond .le 13, 3) := by decide +kernel
theorem dX4_readChain_90 : decode cX4_readChain 90 = .ok (.aload_n 0, 1) := by decide +kernel
theorem dX4_readChain_91 : decode cX4_readChain 91 = .ok (.getfield 12, 3) := by decide +kernel
theorem dX4_readChain_94 : decode cX4_readChain 94 = .ok (.iload 5, 2) := by decide +kernel
theorem dX4_readChain_96 : decode cX4_readChain 96 = .ok (.iconst 0, 1) := by decide +kernel
theorem dX4_readChain_97 : decode cX4_readChain 97 = .ok (.invokevirtual 46, 3) := by decide +kernel
theorem dX4_readChain_100 : decode cX4_readChain 100 = .ok (.aload_n 1, 1) := by decide +kernel
theorem dX4_readChain_101 : decode cX4_readChain 101 = .ok (.invokevirtual 35, 3) := by decide +kernel
theorem dX4_readChain_104 : decode cX4_readChain 104 = .ok (.istore 5, 2) := by decide +kernel
theorem dX4_readChain_106 : decode cX4_readChain 106 = .ok (.iload 5, 2) := by decide +kernel
theorem dX4_readChain_108 : decode cX4_readChain 108 = .ok (.invokestatic 62, 3) := by decide +kernel
theorem dX4_readChain_111 : decode cX4_readChain 111 = .ok (.iload_n 2, 1) := by decide +kernel
theorem dX4_readChain_112 : decode cX4_readChain 112 = .ok (.if_icmp .eq 5, 3) := by decide +kernel
theorem dX4_readChain_115 : decode cX4_readChain 115 = .ok (.iconst 1, 1) := by decide +kernel
theorem dX4_readChain_116 : decode cX4_readChain 116 = .ok (.ireturn, 1) := by decide +kernel
theorem dX4_readChain_117 : decode cX4_readChain 117 = .ok (.aload_n 1, 1) := by decide +kernel
theorem dX4_readChain_118 : decode cX4_readChain 118 = .ok (.dup, 1) := by decide +kernel
theorem dX4_readChain_119 : decode cX4_readChain 119 = .ok (.getfield 18, 3) := by decide +kernel
theorem dX4_readChain_122 : decode cX4_readChain 122 = .ok (.iconst 1, 1) := by decide +kernel
theorem dX4_readChain_123 : decode cX4_readChain 123 = .ok (.iadd, 1) := by decide +kernel
theorem dX4_readChain_124 : decode cX4_readChain 124 = .ok (.putfield 18, 3) := by decide +kernel
theorem dX4_readChain_127 : decode cX4_readChain 127 = .ok (.iinc 6 1, 3) := by decide +kernel
theorem dX4_readChain_130 : decode cX4_readChain 130 = .ok (.goto (-124), 3) := by decide +kernel
theorem dX4_readChain_133 : decode cX4_readChain 133 = .ok (.iconst 0, 1) := by decide +kernel
theorem dX4_readChain_134 : decode cX4_readChain 134 = .ok (.ireturn, 1) := by decide +kernel
theorem dX4_readNested_0 : decode cX4_readNested 0 = .ok (.iload_n 3, 1) := by decide +kernel
theorem dX4_readNested_1 : decode cX4_readNested 1 = .ok (.bipush 6, 2) := by decide +kernel
theorem dX4_readNested_3 : decode cX4_readNested 3 = .ok (.if_icmp .lt 5, 3) := by decide +kernel
theorem dX4_readNested_6 : decode cX4_readNested 6 = .ok (.iconst 0, 1) := by decide +kernel
theorem dX4_readNested_7 : decode cX4_readNested 7 = .ok (.ireturn, 1) := by decide +kernel
theorem dX4_readNested_8 : decode cX4_readNested 8 = .ok (.aload_n 1, 1) := by decide +kernel
theorem dX4_readNested_9 : decode cX4_readNested 9 = .ok (.dup, 1) := by decide +kernel
theorem dX4_readNested_10 : decode cX4_readNested 10 = .ok (.getfield 18, 3) := by decide +kernel
theorem dX4_readNested_13 : decode cX4_readNested 13 = .ok (.iconst 1, 1) := by decide +kernel
theorem dX4_readNested_14 : decode cX4_readNested 14 = .ok (.iadd, 1) := by decide +kernel
theorem dX4_readNested_15 : decode cX4_readNested 15 = .ok (.putfield 18, 3) := by decide +kernel
theorem dX4_readNested_18 : decode cX4_readNested 18 = .ok (.iload_n 2, 1) := by decide +kernel
theorem dX4_readNested_19 : decode cX4_readNested 19 = .ok (.bipush 33, 2) := by decide +kernel
theorem dX4_readNested_21 : decode cX4_readNested 21 = .ok (.if_icmp .ne 27, 3) := by decide +kernel
theorem dX4_readNested_24 : decode cX4_readNested 24 = .ok (.aload_n 0, 1) := by decide +kernel
theorem dX4_readNested_25 : decode cX4_readNested 25 = .ok (.aload_n 1, 1) := by decide +kernel
theorem dX4_readNested_26 : decode cX4_readNested 26 = .ok (.iload_n 3, 1) := by decide +kernel
theorem dX4_readNested_27 : decode cX4_readNested 27 = .ok (.iconst 1, 1) := by decide +kernel
theorem dX4_readNested_28 : decode cX4_readNested 28 = .ok (.iadd, 1) := by decide +kernel
theorem dX4_readNested_29 : decode cX4_readNested 29 = .ok (.iconst 0, 1) := by decide +kernel
theorem dX4_readNested_30 : decode cX4_readNested 30 = .ok (.invokevirtual 54, 3) := by decide +kernel
theorem dX4_readNested_33 : decode cX4_readNested 33 = .ok (.istore 4, 2) := by decide +kernel
theorem dX4_readNested_35 : decode cX4_readNested 35 = .ok (.aload_n 0, 1) := by decide +kernel
theorem dX4_readNested_36 : decode cX4_readNested 36 = .ok (.getfield 12, 3) := by decide +kernel
theorem dX4_readNested_39 : decode cX4_readNested 39 = .ok (.bipush 33, 2) := by decide +kernel
theorem dX4_readNested_41 : decode cX4_readNested 41 = .ok (.iconst 0, 1) := by decide +kernel
theorem dX4_readNested_42 : decode cX4_readNested 42 = .ok (.invokevirtual 46, 3) := by decide +kernel
theorem dX4_readNested_45 : decode cX4_readNested 45 = .ok (.iload 4, 2) := by decide +kernel
theorem dX4_readNested_47 : decode cX4_readNested 47 = .ok (.ireturn, 1) := by decide +kernel
theorem dX4_readNested_48 : decode cX4_readNested 48 = .ok (.iload_n 2, 1) := by decide +kernel
theorem dX4_readNested_49 : decode cX4_readNested 49 = .ok (.bipush 40, 2) := by decide +kernel
theorem dX4_readNested_51 : decode cX4_readNested 51 = .ok (.if_icmp .ne 31, 3) := by decide +kernel
theorem dX4_readNested_54 : decode cX4_readNested 54 = .ok (.aload_n 0, 1) := by decide +kernel
theorem dX4_readNested_55 : decode cX4_readNested 55 = .ok (.aload_n 1, 1) := by decide +kernel
theorem dX4_readNested_56 : decode cX4_readNested 56 = .ok (.iconst 0, 1) := by decide +kernel
theorem dX4_readNested_57 : decode cX4_readNested 57 = .ok (.iload_n 3, 1) := by decide +kernel
theorem dX4_readNested_58 : decode cX4_readNested 58 = .ok (.iconst 1, 1) := by decide +kernel
theorem dX4_readNested_59 : decode cX4_readNested 59 = .ok (.iadd, 1) := by decide +kernel
theorem dX4_readNested_60 : decode cX4_readNested 60 = .ok (.iconst 0, 1) := by decide +kernel
theorem dX4_readNested_61 : decode cX4_readNested 61 = .ok (.invokevirtual 39, 3) := by decide +kernel
theorem dX4_readNested_64 : decode cX4_readNested 64 = .ok (.ifCond .eq 16, 3) := by decide +kernel
theorem dX4_readNested_67 : decode cX4_readNested 67 = .ok (.aload_n 1, 1) := by decide +kernel
theorem dX4_readNested_68 : decode cX4_readNested 68 = .ok (.bipush 41, 2) := by decide +kernel
theorem dX4_readNested_70 : decode cX4_readNested 70 = .ok (.invokevirtual 31, 3) := by decide +kernel
theorem dX4_readNested_73 : decode cX4_readNested 73 = .ok (.ifCond .eq 7, 3) := by decide +kernel
theorem dX4_readNested_76 : decode cX4_readNested 76 = .ok (.iconst 1, 1) := by decide +kernel
theorem dX4_readNested_77 : decode cX4_readNested 77 = .ok (.goto 4, 3) := by decide +kernel
theorem dX4_readNested_80 : decode cX4_readNested 80 = .ok (.iconst 0, 1) := by decide +kernel
theorem dX4_readNested_81 : decode cX4_readNested 81 = .ok (.ireturn, 1) := by decide +kernel
theorem dX4_readNested_82 : decode cX4_readNested 82 = .ok (.aload_n 0, 1) := by decide +kernel
theorem dX4_readNested_83 : decode cX4_readNested 83 = .ok (.aload_n 1, 1) := by decide +kernel
theorem dX4_readNested_84 : decode cX4_readNested 84 = .ok (.iconst 2, 1) := by decide +kernel
theorem dX4_readNested_85 : decode cX4_readNested 85 = .ok (.iload_n 3, 1) := by decide +kernel
theorem dX4_readNested_86 : decode cX4_readNested 86 = .ok (.iconst 1, 1) := by decide +kernel
theorem dX4_readNested_87 : decode cX4_readNested 87 = .ok (.iadd, 1) := by decide +kernel
theorem dX4_readNested_88 : decode cX4_readNested 88 = .ok (.iconst 0, 1) := by decide +kernel
theorem dX4_readNested_89 : decode cX4_readNested 89 = .ok (.invokevirtual 39, 3) := by decide +kernel
theorem dX4_readNested_92 : decode cX4_readNested 92 = .ok (.ifCond .eq 16, 3) := by decide +kernel
theorem dX4_readNested_95 : decode cX4_readNested 95 = .ok (.aload_n 1, 1) := by decide +kernel
theorem dX4_readNested_96 : decode cX4_readNested 96 = .ok (.bipush 93, 2) := by decide +kernel
theorem dX4_readNested_98 : decode cX4_readNested 98 = .ok (.invokevirtual 31, 3) := by decide +kernel
theorem dX4_readNested_101 : decode cX4_readNested 101 = .ok (.ifCond .eq 7, 3) := by decide +kernel
theorem dX4_readNested_104 : decode cX4_readNested 104 = .ok (.iconst 1, 1) := by decide +kernel
theorem dX4_readNested_105 : decode cX4_readNested 105 = .ok (.goto 4, 3) := by decide +kernel
theorem dX4_readNested_108 : decode cX4_readNested 108 = .ok (.iconst 0, 1) := by decide +kernel
theorem dX4_readNested_109 : decode cX4_readNested 109 = .ok (.ireturn, 1) := by decide +kernel
theorem dX4_readUnit_0 : decode cX4_readUnit 0 = .ok (.iload_n 3, 1) := by decide +kernel
theorem dX4_readUnit_1 : decode cX4_readUnit 1 = .ok (.ifCond .eq 7, 3) := by decide +kernel
theorem dX4_readUnit_4 : decode cX4_readUnit 4 = .ok (.iconst 0, 1) := by decide +kernel
theorem dX4_readUnit_5 : decode cX4_readUnit 5 = .ok (.goto 7, 3) := by decide +kernel
theorem dX4_readUnit_8 : decode cX4_readUnit 8 = .ok (.aload_n 1, 1) := by decide +kernel
theorem dX4_readUnit_9 : decode cX4_readUnit 9 = .ok (.invokevirtual 35, 3) := by decide +kernel
theorem dX4_readUnit_12 : decode cX4_readUnit 12 = .ok (.istore 4, 2) := by decide +kernel
theorem dX4_readUnit_14 : decode cX4_readUnit 14 = .ok (.iload 4, 2) := by decide +kernel
theorem dX4_readUnit_16 : decode cX4_readUnit 16 = .ok (.bipush 33, 2) := by decide +kernel
theorem dX4_readUnit_18 : decode cX4_readUnit 18 = .ok (.if_icmp .eq 10, 3) := by decide +kernel
theorem dX4_readUnit_21 : decode cX4_readUnit 21 = .ok (.iload 4, 2) := by decide +kernel
theorem dX4_readUnit_23 : decode cX4_readUnit 23 = .ok (.bipush 40, 2) := by decide +kernel
theorem dX4_readUnit_25 : decode cX4_readUnit 25 = .ok (.if_icmp .ne 12, 3) := by decide +kernel
theorem dX4_readUnit_28 : decode cX4_readUnit 28 = .ok (.aload_n 0, 1) := by decide +kernel
theorem dX4_readUnit_29 : decode cX4_readUnit 29 = .ok (.aload_n 1, 1) := by decide +kernel
theorem dX4_readUnit_30 : decode cX4_readUnit 30 = .ok (.iload 4, 2) := by decide +kernel
theorem dX4_readUnit_32 : decode cX4_readUnit 32 = .ok (.iload_n 2, 1) := by decide +kernel
theorem dX4_readUnit_33 : decode cX4_readUnit 33 = .ok (.invokevirtual 66, 3) := by decide +kernel
theorem dX4_readUnit_36 : decode cX4_readUnit 36 = .ok (.ireturn, 1) := by decide +kernel
theorem dX4_readUnit_37 : decode cX4_readUnit 37 = .ok (.iload_n 3, 1) := by decide +kernel
theorem dX4_readUnit_38 : decode cX4_readUnit 38 = .ok (.ifCond .ne 16, 3) := by decide +kernel
theorem dX4_readUnit_41 : decode cX4_readUnit 41 = .ok (.aload_n 0, 1) := by decide +kernel
theorem dX4_readUnit_42 : decode cX4_readUnit 42 = .ok (.aload_n 1, 1) := by decide +kernel
theorem dX4_readUnit_43 : decode cX4_readUnit 43 = .ok (.iconst 2, 1) := by decide +kernel
theorem dX4_readUnit_44 : decode cX4_readUnit 44 = .ok (.iload_n 2, 1) := by decide +kernel
theorem dX4_readUnit_45 : decode cX4_readUnit 45 = .ok (.iconst 0, 1) := by decide +kernel
theorem dX4_readUnit_46 : decode cX4_readUnit 46 = .ok (.invokevirtual 39, 3) := by decide +kernel
theorem dX4_readUnit_49 : decode cX4_readUnit 49 = .ok (.ifCond .ne 5, 3) := by decide +kernel
theorem dX4_readUnit_52 : decode cX4_readUnit 52 = .ok (.iconst 0, 1) := by decide +kernel
theorem dX4_readUnit_53 : decode cX4_readUnit 53 = .ok (.ireturn, 1) := by decide +kernel
theorem dX4_readUnit_54 : decode cX4_readUnit 54 = .ok (.aload_n 1, 1) := by decide +kernel
theorem dX4_readUnit_55 : decode cX4_readUnit 55 = .ok (.invokevirtual 35, 3) := by decide +kernel
theorem dX4_readUnit_58 : decode cX4_readUnit 58 = .ok (.istore 5, 2) := by decide +kernel
theorem dX4_readUnit_60 : decode cX4_readUnit 60 = .ok (.iload 5, 2) := by decide +kernel
theorem dX4_readUnit_62 : decode cX4_readUnit 62 = .ok (.invokestatic 43, 3) := by decide +kernel
theorem dX4_readUnit_65 : decode cX4_readUnit 65 = .ok (.ifCond .ne 5, 3) := by decide +kernel
theorem dX4_readUnit_68 : decode cX4_readUnit 68 = .ok (.iconst 0, 1) := by decide +kernel
theorem dX4_readUnit_69 : decode cX4_readUnit 69 = .ok (.ireturn, 1) := by decide +kernel
theorem dX4_readUnit_70 : decode cX4_readUnit 70 = .ok (.aload_n 1, 1) := by decide +kernel
theorem dX4_readUnit_71 : decode cX4_readUnit 71 = .ok (.dup, 1) := by decide +kernel
theorem dX4_readUnit_72 : decode cX4_readUnit 72 = .ok (.getfield 18, 3) := by decide +kernel
theorem dX4_readUnit_75 : decode cX4_readUnit 75 = .ok (.iconst 1, 1) := by decide +kernel
theorem dX4_readUnit_76 : decode cX4_readUnit 76 = .ok (.iadd, 1) := by decide +kernel
theorem dX4_readUnit_77 : decode cX4_readUnit 77 = .ok (.putfield 18, 3) := by decide +kernel
theorem dX4_readUnit_80 : decode cX4_readUnit 80 = .ok (.aload_n 0, 1) := by decide +kernel
theorem dX4_readUnit_81 : decode cX4_readUnit 81 = .ok (.aload_n 1, 1) := by decide +kernel
theorem dX4_readUnit_82 : decode cX4_readUnit 82 = .ok (.iconst 2, 1) := by decide +kernel
theorem dX4_readUnit_83 : decode cX4_readUnit 83 = .ok (.iload_n 2, 1) := by decide +kernel
theorem dX4_readUnit_84 : decode cX4_readUnit 84 = .ok (.iconst 0, 1) := by decide +kernel
theorem dX4_readUnit_85 : decode cX4_readUnit 85 = .ok (.invokevirtual 39, 3) := by decide +kernel
theorem dX4_readUnit_88 : decode cX4_readUnit 88 = .ok (.ifCond .ne 5, 3) := by decide +kernel
theorem dX4_readUnit_91 : decode cX4_readUnit 91 = .ok (.iconst 0, 1) := by decide +kernel
theorem dX4_readUnit_92 : decode cX4_readUnit 92 = .ok (.ireturn, 1) := by decide +kernel
theorem dX4_readUnit_93 : decode cX4_readUnit 93 = .ok (.aload_n 0, 1) := by decide +kernel
theorem dX4_readUnit_94 : decode cX4_readUnit 94 = .ok (.getfield 12, 3) := by decide +kernel
theorem dX4_readUnit_97 : decode cX4_readUnit 97 = .ok (.iload 5, 2) := by decide +kernel
theorem dX4_readUnit_99 : decode cX4_readUnit 99 = .ok (.iconst 0, 1) := by decide +kernel
theorem dX4_readUnit_100 : decode cX4_readUnit 100 = .ok (.invokevirtual 46, 3) := by decide +kernel
theorem dX4_readUnit_103 : decode cX4_readUnit 103 = .ok (.iconst 1, 1) := by decide +kernel
theorem dX4_readUnit_104 : decode cX4_readUnit 104 = .ok (.ireturn, 1) := by decide +kernel
def w_LR0 : List Cond := [Cond.code yX4_readNested cX4_readNested 5 (some .boolean), Cond.code yX4_readAtom cX4_readAtom 5 (some .boolean), Cond.code yX4_readChain cX4_readChain 9 (some .boolean), Cond.code yX4_readUnit cX4_readUnit 6 (some .boolean), Cond.fieldLink RX4 18 "HeadYear$Tape" "at" "I", Cond.methodLink RX4 39 yX4_readChain, Cond.instanceMethod yX4_readChain, Cond.selects RX4 yX4_readChain yX4_readChain, Cond.initialized RX4, Cond.methodLink RX4 31 yX8_take, Cond.instanceMethod yX8_take, Cond.selects RX8 yX8_take yX8_take, Cond.initialized RX8, Cond.methodLink RX4 54 yX4_readUnit, Cond.instanceMethod yX4_readUnit, Cond.selects RX4 yX4_readUnit yX4_readUnit, Cond.fieldLink RX4 12 "HeadYear$LawReader" "draft" "LHeadYear$Law;", Cond.methodLink RX4 46 yX3_add, Cond.instanceMethod yX3_add, Cond.selects RX3 yX3_add yX3_add, Cond.initialized RX3, Cond.methodLink RX4 35 yX8_next, Cond.instanceMethod yX8_next, Cond.selects RX8 yX8_next yX8_next, Cond.fieldLink RX4 70 "HeadYear$LawReader" "LETTERS" "[C", Cond.methodLink RX4 74 yX8_takeNumber, Cond.instanceMethod yX8_takeNumber, Cond.selects RX8 yX8_takeNumber yX8_takeNumber, Cond.fieldLink RX4 77 "HeadYear$Tape" "number" "I", Cond.methodLink RX4 66 yX4_readNested, Cond.instanceMethod yX4_readNested, Cond.selects RX4 yX4_readNested yX4_readNested, Cond.methodLink RX4 58 yX4_readAtom, Cond.instanceMethod yX4_readAtom, Cond.selects RX4 yX4_readAtom yX4_readAtom, Cond.methodLink RX4 62 yX4_chainOf, Cond.static yX4_chainOf, Cond.methodLink RX4 43 yX4_isComparison, Cond.static yX4_isComparison]
def w_LR : List Cond := w_LR0 ++ (u_ws RX8 TX8 4 ++ (u_ws RX4 TX4 1 ++ (w_X8_take ++ (w_X3_add ++ (w_X8_next ++ (w_X8_takeNumber ++ (w_X4_chainOf ++ (w_X4_isComparison ++ ([])))))))))
def w_X4_readNested : List Cond := Cond.code yX4_readNested cX4_readNested 5 (some .boolean) :: w_LR
def w_X4_readAtom : List Cond := Cond.code yX4_readAtom cX4_readAtom 5 (some .boolean) :: w_LR
def w_X4_readChain : List Cond := Cond.code yX4_readChain cX4_readChain 9 (some .boolean) :: w_LR
def w_X4_readUnit : List Cond := Cond.code yX4_readUnit cX4_readUnit 6 (some .boolean) :: w_LR
theorem in_X4_readNested_X8 : ∀ w ∈ u_ws RX8 TX8 4, w ∈ w_X4_readNested := fun _ h => List.mem_cons_of_mem _ (List.mem_append_right _ (List.mem_append_left _ h))
theorem in_X4_readNested_X4 : ∀ w ∈ u_ws RX4 TX4 1, w ∈ w_X4_readNested := fun _ h => List.mem_cons_of_mem _ (List.mem_append_right _ (List.mem_append_right _ (List.mem_append_left _ h)))
theorem gg_X4_readNested_X8_take : GoodIn w_X4_readNested w_X8_take := goodIn_sub (fun _ h => List.mem_cons_of_mem _ (List.mem_append_right _ (List.mem_append_right _ (List.mem_append_right _ (List.mem_append_left _ h))))) (by decide +kernel)
theorem gg_X4_readNested_X3_add : GoodIn w_X4_readNested w_X3_add := goodIn_sub (fun _ h => List.mem_cons_of_mem _ (List.mem_append_right _ (List.mem_append_right _ (List.mem_append_right _ (List.mem_append_right _ (List.mem_append_left _ h)))))) (by decide +kernel)
theorem gg_X4_readNested_X8_next : GoodIn w_X4_readNested w_X8_next := goodIn_sub (fun _ h => List.mem_cons_of_mem _ (List.mem_append_right _ (List.mem_append_right _ (List.mem_append_right _ (List.mem_append_right _ (List.mem_append_right _ (List.mem_append_left _ h))))))) (by decide +kernel)
theorem gg_X4_readNested_X8_takeNumber : GoodIn w_X4_readNested w_X8_takeNumber := goodIn_sub (fun _ h => List.mem_cons_of_mem _ (List.mem_append_right _ (List.mem_append_right _ (List.mem_append_right _ (List.mem_append_right _ (List.mem_append_right _ (List.mem_append_right _ (List.mem_append_left _ h)))))))) (by decide +kernel)
theorem gg_X4_readNested_X4_chainOf : GoodIn w_X4_readNested w_X4_chainOf := goodIn_sub (fun _ h => List.mem_cons_of_mem _ (List.mem_append_right _ (List.mem_append_right _ (List.mem_append_right _ (List.mem_append_right _ (List.mem_append_right _ (List.mem_append_right _ (List.mem_append_right _ (List.mem_append_left _ h))))))))) (by decide +kernel)
theorem gg_X4_readNested_X4_isComparison : GoodIn w_X4_readNested w_X4_isComparison := goodIn_sub (fun _ h => List.mem_cons_of_mem _ (List.mem_append_right _ (List.mem_append_right _ (List.mem_append_right _ (List.mem_append_right _ (List.mem_append_right _ (List.mem_append_right _ (List.mem_append_right _ (List.mem_append_right _ (List.mem_append_left _ h)))))))))) (by decide +kernel)
theorem gg_X4_readNested_X4_readNested : GoodIn w_X4_readNested w_X4_readNested := goodIn_sub (fun _ h => (List.mem_cons.mp h).elim (fun e => e ▸ List.mem_cons_of_mem _ (List.mem_append_left _ (List.mem_of_getElem? (i := 0) rfl))) (fun h => List.mem_cons_of_mem _ h)) (by decide +kernel)
theorem gg_X4_readNested_X4_readAtom : GoodIn w_X4_readNested w_X4_readAtom := goodIn_sub (fun _ h => (List.mem_cons.mp h).elim (fun e => e ▸ List.mem_cons_of_mem _ (List.mem_append_left _ (List.mem_of_getElem? (i := 1) rfl))) (fun h => List.mem_cons_of_mem _ h)) (by decide +kernel)
theorem gg_X4_readNested_X4_readChain : GoodIn w_X4_readNested w_X4_readChain := goodIn_sub (fun _ h => (List.mem_cons.mp h).elim (fun e => e ▸ List.mem_cons_of_mem _ (List.mem_append_left _ (List.mem_of_getElem? (i := 2) rfl))) (fun h => List.mem_cons_of_mem _ h)) (by decide +kernel)
theorem gg_X4_readNested_X4_readUnit : GoodIn w_X4_readNested w_X4_readUnit := goodIn_sub (fun _ h => (List.mem_cons.mp h).elim (fun e => e ▸ List.mem_cons_of_mem _ (List.mem_append_left _ (List.mem_of_getElem? (i := 3) rfl))) (fun h => List.mem_cons_of_mem _ h)) (by decide +kernel)
theorem in_X4_readAtom_X8 : ∀ w ∈ u_ws RX8 TX8 4, w ∈ w_X4_readAtom := fun _ h => List.mem_cons_of_mem _ (List.mem_append_right _ (List.mem_append_left _ h))
theorem in_X4_readAtom_X4 : ∀ w ∈ u_ws RX4 TX4 1, w ∈ w_X4_readAtom := fun _ h => List.mem_cons_of_mem _ (List.mem_append_right _ (List.mem_append_right _ (List.mem_append_left _ h)))
theorem gg_X4_readAtom_X8_take : GoodIn w_X4_readAtom w_X8_take := goodIn_sub (fun _ h => List.mem_cons_of_mem _ (List.mem_append_right _ (List.mem_append_right _ (List.mem_append_right _ (List.mem_append_left _ h))))) (by decide +kernel)
theorem gg_X4_readAtom_X3_add : GoodIn w_X4_readAtom w_X3_add := goodIn_sub (fun _ h => List.mem_cons_of_mem _ (List.mem_append_right _ (List.mem_append_right _ (List.mem_append_right _ (List.mem_append_right _ (List.mem_append_left _ h)))))) (by decide +kernel)
theorem gg_X4_readAtom_X8_next : GoodIn w_X4_readAtom w_X8_next := goodIn_sub (fun _ h => List.mem_cons_of_mem _ (List.mem_append_right _ (List.mem_append_right _ (List.mem_append_right _ (List.mem_append_right _ (List.mem_append_right _ (List.mem_append_left _ h))))))) (by decide +kernel)
theorem gg_X4_readAtom_X8_takeNumber : GoodIn w_X4_readAtom w_X8_takeNumber := goodIn_sub (fun _ h => List.mem_cons_of_mem _ (List.mem_append_right _ (List.mem_append_right _ (List.mem_append_right _ (List.mem_append_right _ (List.mem_append_right _ (List.mem_append_right _ (List.mem_append_left _ h)))))))) (by decide +kernel)
theorem gg_X4_readAtom_X4_chainOf : GoodIn w_X4_readAtom w_X4_chainOf := goodIn_sub (fun _ h => List.mem_cons_of_mem _ (List.mem_append_right _ (List.mem_append_right _ (List.mem_append_right _ (List.mem_append_right _ (List.mem_append_right _ (List.mem_append_right _ (List.mem_append_right _ (List.mem_append_left _ h))))))))) (by decide +kernel)
theorem gg_X4_readAtom_X4_isComparison : GoodIn w_X4_readAtom w_X4_isComparison := goodIn_sub (fun _ h => List.mem_cons_of_mem _ (List.mem_append_right _ (List.mem_append_right _ (List.mem_append_right _ (List.mem_append_right _ (List.mem_append_right _ (List.mem_append_right _ (List.mem_append_right _ (List.mem_append_right _ (List.mem_append_left _ h)))))))))) (by decide +kernel)
theorem gg_X4_readAtom_X4_readNested : GoodIn w_X4_readAtom w_X4_readNested := goodIn_sub (fun _ h => (List.mem_cons.mp h).elim (fun e => e ▸ List.mem_cons_of_mem _ (List.mem_append_left _ (List.mem_of_getElem? (i := 0) rfl))) (fun h => List.mem_cons_of_mem _ h)) (by decide +kernel)
theorem gg_X4_readAtom_X4_readAtom : GoodIn w_X4_readAtom w_X4_readAtom := goodIn_sub (fun _ h => (List.mem_cons.mp h).elim (fun e => e ▸ List.mem_cons_of_mem _ (List.mem_append_left _ (List.mem_of_getElem? (i := 1) rfl))) (fun h => List.mem_cons_of_mem _ h)) (by decide +kernel)
theorem gg_X4_readAtom_X4_readChain : GoodIn w_X4_readAtom w_X4_readChain := goodIn_sub (fun _ h => (List.mem_cons.mp h).elim (fun e => e ▸ List.mem_cons_of_mem _ (List.mem_append_left _ (List.mem_of_getElem? (i := 2) rfl))) (fun h => List.mem_cons_of_mem _ h)) (by decide +kernel)
theorem gg_X4_readAtom_X4_readUnit : GoodIn w_X4_readAtom w_X4_readUnit := goodIn_sub (fun _ h => (List.mem_cons.mp h).elim (fun e => e ▸ List.mem_cons_of_mem _ (List.mem_append_left _ (List.mem_of_getElem? (i := 3) rfl))) (fun h => List.mem_cons_of_mem _ h)) (by decide +kernel)
theorem in_X4_readChain_X8 : ∀ w ∈ u_ws RX8 TX8 4, w ∈ w_X4_readChain := fun _ h => List.mem_cons_of_mem _ (List.mem_append_right _ (List.mem_append_left _ h))
theorem in_X4_readChain_X4 : ∀ w ∈ u_ws RX4 TX4 1, w ∈ w_X4_readChain := fun _ h => List.mem_cons_of_mem _ (List.mem_append_right _ (List.mem_append_right _ (List.mem_append_left _ h)))
theorem gg_X4_readChain_X8_take : GoodIn w_X4_readChain w_X8_take := goodIn_sub (fun _ h => List.mem_cons_of_mem _ (List.mem_append_right _ (List.mem_append_right _ (List.mem_append_right _ (List.mem_append_left _ h))))) (by decide +kernel)
theorem gg_X4_readChain_X3_add : GoodIn w_X4_readChain w_X3_add := goodIn_sub (fun _ h => List.mem_cons_of_mem _ (List.mem_append_right _ (List.mem_append_right _ (List.mem_append_right _ (List.mem_append_right _ (List.mem_append_left _ h)))))) (by decide +kernel)
theorem gg_X4_readChain_X8_next : GoodIn w_X4_readChain w_X8_next := goodIn_sub (fun _ h => List.mem_cons_of_mem _ (List.mem_append_right _ (List.mem_append_right _ (List.mem_append_right _ (List.mem_append_right _ (List.mem_append_right _ (List.mem_append_left _ h))))))) (by decide +kernel)
theorem gg_X4_readChain_X8_takeNumber : GoodIn w_X4_readChain w_X8_takeNumber := goodIn_sub (fun _ h => List.mem_cons_of_mem _ (List.mem_append_right _ (List.mem_append_right _ (List.mem_append_right _ (List.mem_append_right _ (List.mem_append_right _ (List.mem_append_right _ (List.mem_append_left _ h)))))))) (by decide +kernel)
theorem gg_X4_readChain_X4_chainOf : GoodIn w_X4_readChain w_X4_chainOf := goodIn_sub (fun _ h => List.mem_cons_of_mem _ (List.mem_append_right _ (List.mem_append_right _ (List.mem_append_right _ (List.mem_append_right _ (List.mem_append_right _ (List.mem_append_right _ (List.mem_append_right _ (List.mem_append_left _ h))))))))) (by decide +kernel)
theorem gg_X4_readChain_X4_isComparison : GoodIn w_X4_readChain w_X4_isComparison := goodIn_sub (fun _ h => List.mem_cons_of_mem _ (List.mem_append_right _ (List.mem_append_right _ (List.mem_append_right _ (List.mem_append_right _ (List.mem_append_right _ (List.mem_append_right _ (List.mem_append_right _ (List.mem_append_right _ (List.mem_append_left _ h)))))))))) (by decide +kernel)
theorem gg_X4_readChain_X4_readNested : GoodIn w_X4_readChain w_X4_readNested := goodIn_sub (fun _ h => (List.mem_cons.mp h).elim (fun e => e ▸ List.mem_cons_of_mem _ (List.mem_append_left _ (List.mem_of_getElem? (i := 0) rfl))) (fun h => List.mem_cons_of_mem _ h)) (by decide +kernel)
theorem gg_X4_readChain_X4_readAtom : GoodIn w_X4_readChain w_X4_readAtom := goodIn_sub (fun _ h => (List.mem_cons.mp h).elim (fun e => e ▸ List.mem_cons_of_mem _ (List.mem_append_left _ (List.mem_of_getElem? (i := 1) rfl))) (fun h => List.mem_cons_of_mem _ h)) (by decide +kernel)
theorem gg_X4_readChain_X4_readChain : GoodIn w_X4_readChain w_X4_readChain := goodIn_sub (fun _ h => (List.mem_cons.mp h).elim (fun e => e ▸ List.mem_cons_of_mem _ (List.mem_append_left _ (List.mem_of_getElem? (i := 2) rfl))) (fun h => List.mem_cons_of_mem _ h)) (by decide +kernel)
theorem gg_X4_readChain_X4_readUnit : GoodIn w_X4_readChain w_X4_readUnit := goodIn_sub (fun _ h => (List.mem_cons.mp h).elim (fun e => e ▸ List.mem_cons_of_mem _ (List.mem_append_left _ (List.mem_of_getElem? (i := 3) rfl))) (fun h => List.mem_cons_of_mem _ h)) (by decide +kernel)
theorem in_X4_readUnit_X8 : ∀ w ∈ u_ws RX8 TX8 4, w ∈ w_X4_readUnit := fun _ h => List.mem_cons_of_mem _ (List.mem_append_right _ (List.mem_append_left _ h))
theorem in_X4_readUnit_X4 : ∀ w ∈ u_ws RX4 TX4 1, w ∈ w_X4_readUnit := fun _ h => List.mem_cons_of_mem _ (List.mem_append_right _ (List.mem_append_right _ (List.mem_append_left _ h)))
theorem gg_X4_readUnit_X8_take : GoodIn w_X4_readUnit w_X8_take := goodIn_sub (fun _ h => List.mem_cons_of_mem _ (List.mem_append_right _ (List.mem_append_right _ (List.mem_append_right _ (List.mem_append_left _ h))))) (by decide +kernel)
theorem gg_X4_readUnit_X3_add : GoodIn w_X4_readUnit w_X3_add := goodIn_sub (fun _ h => List.mem_cons_of_mem _ (List.mem_append_right _ (List.mem_append_right _ (List.mem_append_right _ (List.mem_append_right _ (List.mem_append_left _ h)))))) (by decide +kernel)
theorem gg_X4_readUnit_X8_next : GoodIn w_X4_readUnit w_X8_next := goodIn_sub (fun _ h => List.mem_cons_of_mem _ (List.mem_append_right _ (List.mem_append_right _ (List.mem_append_right _ (List.mem_append_right _ (List.mem_append_right _ (List.mem_append_left _ h))))))) (by decide +kernel)
theorem gg_X4_readUnit_X8_takeNumber : GoodIn w_X4_readUnit w_X8_takeNumber := goodIn_sub (fun _ h => List.mem_cons_of_mem _ (List.mem_append_right _ (List.mem_append_right _ (List.mem_append_right _ (List.mem_append_right _ (List.mem_append_right _ (List.mem_append_right _ (List.mem_append_left _ h)))))))) (by decide +kernel)
theorem gg_X4_readUnit_X4_chainOf : GoodIn w_X4_readUnit w_X4_chainOf := goodIn_sub (fun _ h => List.mem_cons_of_mem _ (List.mem_append_right _ (List.mem_append_right _ (List.mem_append_right _ (List.mem_append_right _ (List.mem_append_right _ (List.mem_append_right _ (List.mem_append_right _ (List.mem_append_left _ h))))))))) (by decide +kernel)
theorem gg_X4_readUnit_X4_isComparison : GoodIn w_X4_readUnit w_X4_isComparison := goodIn_sub (fun _ h => List.mem_cons_of_mem _ (List.mem_append_right _ (List.mem_append_right _ (List.mem_append_right _ (List.mem_append_right _ (List.mem_append_right _ (List.mem_append_right _ (List.mem_append_right _ (List.mem_append_right _ (List.mem_append_left _ h)))))))))) (by decide +kernel)
theorem gg_X4_readUnit_X4_readNested : GoodIn w_X4_readUnit w_X4_readNested := goodIn_sub (fun _ h => (List.mem_cons.mp h).elim (fun e => e ▸ List.mem_cons_of_mem _ (List.mem_append_left _ (List.mem_of_getElem? (i := 0) rfl))) (fun h => List.mem_cons_of_mem _ h)) (by decide +kernel)
theorem gg_X4_readUnit_X4_readAtom : GoodIn w_X4_readUnit w_X4_readAtom := goodIn_sub (fun _ h => (List.mem_cons.mp h).elim (fun e => e ▸ List.mem_cons_of_mem _ (List.mem_append_left _ (List.mem_of_getElem? (i := 1) rfl))) (fun h => List.mem_cons_of_mem _ h)) (by decide +kernel)
theorem gg_X4_readUnit_X4_readChain : GoodIn w_X4_readUnit w_X4_readChain := goodIn_sub (fun _ h => (List.mem_cons.mp h).elim (fun e => e ▸ List.mem_cons_of_mem _ (List.mem_append_left _ (List.mem_of_getElem? (i := 2) rfl))) (fun h => List.mem_cons_of_mem _ h)) (by decide +kernel)
theorem gg_X4_readUnit_X4_readUnit : GoodIn w_X4_readUnit w_X4_readUnit := goodIn_sub (fun _ h => (List.mem_cons.mp h).elim (fun e => e ▸ List.mem_cons_of_mem _ (List.mem_append_left _ (List.mem_of_getElem? (i := 3) rfl))) (fun h => List.mem_cons_of_mem _ h)) (by decide +kernel)
theorem g_X4_readAtom_X3_add_46 : GoodIn w_X4_readAtom (wsV RX4 46 RX3 yX3_add w_X3_add) := goodIn_app (goodIn_of _ (by decide +kernel)) gg_X4_readAtom_X3_add
theorem g_X4_readAtom_X4_readNested_66 : GoodIn w_X4_readAtom (wsV RX4 66 RX4 yX4_readNested w_X4_readNested) := goodIn_app (goodIn_of _ (by decide +kernel)) gg_X4_readAtom_X4_readNested
theorem g_X4_readAtom_X8_next_35 : GoodIn w_X4_readAtom (wsV RX4 35 RX8 yX8_next w_X8_next) := goodIn_app (goodIn_of _ (by decide +kernel)) gg_X4_readAtom_X8_next
theorem g_X4_readAtom_X8_takeNumber_74 : GoodIn w_X4_readAtom (wsV RX4 74 RX8 yX8_takeNumber w_X8_takeNumber) := goodIn_app (goodIn_of _ (by decide +kernel)) gg_X4_readAtom_X8_takeNumber
theorem g_X4_readChain_X3_add_46 : GoodIn w_X4_readChain (wsV RX4 46 RX3 yX3_add w_X3_add) := goodIn_app (goodIn_of _ (by decide +kernel)) gg_X4_readChain_X3_add
theorem g_X4_readChain_X4_chainOf_62 : GoodIn w_X4_readChain (va_wsS RX4 62 yX4_chainOf w_X4_chainOf) := goodIn_app (goodIn_of _ (by decide +kernel)) gg_X4_readChain_X4_chainOf
theorem g_X4_readChain_X4_readAtom_58 : GoodIn w_X4_readChain (wsV RX4 58 RX4 yX4_readAtom w_X4_readAtom) := goodIn_app (goodIn_of _ (by decide +kernel)) gg_X4_readChain_X4_readAtom
theorem g_X4_readChain_X4_readChain_39 : GoodIn w_X4_readChain (wsV RX4 39 RX4 yX4_readChain w_X4_readChain) := goodIn_app (goodIn_of _ (by decide +kernel)) gg_X4_readChain_X4_readChain
theorem g_X4_readChain_X4_readUnit_54 : GoodIn w_X4_readChain (wsV RX4 54 RX4 yX4_readUnit w_X4_readUnit) := goodIn_app (goodIn_of _ (by decide +kernel)) gg_X4_readChain_X4_readUnit
theorem g_X4_readChain_X8_next_35 : GoodIn w_X4_readChain (wsV RX4 35 RX8 yX8_next w_X8_next) := goodIn_app (goodIn_of _ (by decide +kernel)) gg_X4_readChain_X8_next
theorem g_X4_readNested_X3_add_46 : GoodIn w_X4_readNested (wsV RX4 46 RX3 yX3_add w_X3_add) := goodIn_app (goodIn_of _ (by decide +kernel)) gg_X4_readNested_X3_add
theorem g_X4_readNested_X4_readChain_39 : GoodIn w_X4_readNested (wsV RX4 39 RX4 yX4_readChain w_X4_readChain) := goodIn_app (goodIn_of _ (by decide +kernel)) gg_X4_readNested_X4_readChain
theorem g_X4_readNested_X4_readUnit_54 : GoodIn w_X4_readNested (wsV RX4 54 RX4 yX4_readUnit w_X4_readUnit) := goodIn_app (goodIn_of _ (by decide +kernel)) gg_X4_readNested_X4_readUnit
theorem g_X4_readNested_X8_take_31 : GoodIn w_X4_readNested (wsV RX4 31 RX8 yX8_take w_X8_take) := goodIn_app (goodIn_of _ (by decide +kernel)) gg_X4_readNested_X8_take
theorem g_X4_readUnit_X3_add_46 : GoodIn w_X4_readUnit (wsV RX4 46 RX3 yX3_add w_X3_add) := goodIn_app (goodIn_of _ (by decide +kernel)) gg_X4_readUnit_X3_add
theorem g_X4_readUnit_X4_isComparison_43 : GoodIn w_X4_readUnit (va_wsS RX4 43 yX4_isComparison w_X4_isComparison) := goodIn_app (goodIn_of _ (by decide +kernel)) gg_X4_readUnit_X4_isComparison
theorem g_X4_readUnit_X4_readChain_39 : GoodIn w_X4_readUnit (wsV RX4 39 RX4 yX4_readChain w_X4_readChain) := goodIn_app (goodIn_of _ (by decide +kernel)) gg_X4_readUnit_X4_readChain
theorem g_X4_readUnit_X4_readNested_66 : GoodIn w_X4_readUnit (wsV RX4 66 RX4 yX4_readNested w_X4_readNested) := goodIn_app (goodIn_of _ (by decide +kernel)) gg_X4_readUnit_X4_readNested
theorem g_X4_readUnit_X8_next_35 : GoodIn w_X4_readUnit (wsV RX4 35 RX8 yX8_next w_X8_next) := goodIn_app (goodIn_of _ (by decide +kernel)) gg_X4_readUnit_X8_next

def P_nested (l : Launch) (E : py_E) (G : wf_G) (wb : Int) (fr lo : Nat) : Prop := ∀ (L : List Nat) (f : py_F) (sz : Nat) (h : Nat) (t : Nat) (a : Int32) (i : Int32) (gb : rs_B) (nb : Int) (pb : Int) (eb : Nat), WF E G L f → G.1 h = 5 → G.1 t = 9 → (wb ≤ i.toInt ∧ i.toInt ≤ 6) → (tp_a f t < tp_l f t) → (i.toInt = 6 - ((eb : Nat) : Int)) → (tp_l f t = nb ∧ tp_a f t = pb) → (0 ≤ pb ∧ nb ≤ 160) → (gfn f (G.2 t 0) = gb) → Met l yX4_readNested w_X4_readNested ({ frames := fr, cells := 0, slots := 0, locals := lo }) (py_Pc E [.ref h, .ref t, .int a, .int i] L f sz) (py_Qi E L f sz (fun r L1 f1 => (0 ≤ r.toInt ∧ r.toInt ≤ 1) ∧ (tp_l f1 t = nb) ∧ (pb ≤ tp_a f1 t) ∧ (r.toInt ≠ 0 → pb + 1 ≤ tp_a f1 t ∧ tp_a f1 t ≤ nb) ∧ (r.toInt = (rs_ns gb nb eb a.toInt pb).1 ∧ tp_a f1 t = (rs_ns gb nb eb a.toInt pb).2) ∧ WF E G L1 f1 ∧ RP E G f f1 ∧ KP G [9, 4, 20] false f f1)) 0 0 (va_A (va_pl L f) sz)
def P_atom (l : Launch) (E : py_E) (G : wf_G) (wb : Int) (fr lo : Nat) : Prop := ∀ (L : List Nat) (f : py_F) (sz : Nat) (h : Nat) (t : Nat) (i : Int32) (gb : rs_B) (nb : Int) (pb : Int) (eb : Nat), WF E G L f → G.1 h = 5 → G.1 t = 9 → (wb ≤ i.toInt ∧ i.toInt ≤ 6) → (i.toInt = 6 - ((eb : Nat) : Int)) → (tp_l f t = nb ∧ tp_a f t = pb) → (0 ≤ pb ∧ nb ≤ 160) → (gfn f (G.2 t 0) = gb) → Met l yX4_readAtom w_X4_readAtom ({ frames := fr, cells := 0, slots := 0, locals := lo }) (py_Pc E [.ref h, .ref t, .int i] L f sz) (py_Qi E L f sz (fun r L1 f1 => (0 ≤ r.toInt ∧ r.toInt ≤ 1) ∧ (tp_l f1 t = nb) ∧ (pb ≤ tp_a f1 t) ∧ (r.toInt ≠ 0 → pb + 1 ≤ tp_a f1 t ∧ tp_a f1 t ≤ nb) ∧ (r.toInt = (rs_at gb nb eb pb).1 ∧ tp_a f1 t = (rs_at gb nb eb pb).2) ∧ WF E G L1 f1 ∧ RP E G f f1 ∧ KP G [9, 4, 20] false f f1)) 0 0 (va_A (va_pl L f) sz)
def P_chain3 (l : Launch) (E : py_E) (G : wf_G) (wb : Int) (fr lo : Nat) : Prop := ∀ (L : List Nat) (f : py_F) (sz : Nat) (h : Nat) (t : Nat) (i : Int32) (b : Int32) (gb : rs_B) (nb : Int) (pb : Int) (eb : Nat), WF E G L f → G.1 h = 5 → G.1 t = 9 → (0 ≤ b.toInt ∧ b.toInt ≤ 1) → (wb ≤ i.toInt ∧ i.toInt ≤ 6) → (i.toInt = 6 - ((eb : Nat) : Int)) → (tp_l f t = nb ∧ tp_a f t = pb) → (0 ≤ pb ∧ nb ≤ 160) → (gfn f (G.2 t 0) = gb) → Met l yX4_readChain w_X4_readChain ({ frames := fr, cells := 0, slots := 0, locals := lo }) (py_Pc E [.ref h, .ref t, .int 3, .int i, .int b] L f sz) (py_Qi E L f sz (fun r L1 f1 => (0 ≤ r.toInt ∧ r.toInt ≤ 1) ∧ (tp_l f1 t = nb) ∧ (pb ≤ tp_a f1 t) ∧ (r.toInt ≠ 0 → pb + 1 ≤ tp_a f1 t ∧ tp_a f1 t ≤ nb) ∧ (r.toInt = (rs_tm gb nb eb pb).1 ∧ tp_a f1 t = (rs_tm gb nb eb pb).2) ∧ WF E G L1 f1 ∧ RP E G f f1 ∧ KP G [9, 4, 20] false f f1)) 0 0 (va_A (va_pl L f) sz)
def P_chain2 (l : Launch) (E : py_E) (G : wf_G) (wb : Int) (fr lo : Nat) : Prop := ∀ (L : List Nat) (f : py_F) (sz : Nat) (h : Nat) (t : Nat) (i : Int32) (b : Int32) (gb : rs_B) (nb : Int) (pb : Int) (eb : Nat), WF E G L f → G.1 h = 5 → G.1 t = 9 → (0 ≤ b.toInt ∧ b.toInt ≤ 1) → (wb ≤ i.toInt ∧ i.toInt ≤ 6) → (i.toInt = 6 - ((eb : Nat) : Int)) → (tp_l f t = nb ∧ tp_a f t = pb) → (0 ≤ pb ∧ nb ≤ 160) → (gfn f (G.2 t 0) = gb) → Met l yX4_readChain w_X4_readChain ({ frames := fr, cells := 0, slots := 0, locals := lo }) (py_Pc E [.ref h, .ref t, .int 2, .int i, .int b] L f sz) (py_Qi E L f sz (fun r L1 f1 => (0 ≤ r.toInt ∧ r.toInt ≤ 1) ∧ (tp_l f1 t = nb) ∧ (pb ≤ tp_a f1 t) ∧ (r.toInt ≠ 0 → pb + 1 ≤ tp_a f1 t ∧ tp_a f1 t ≤ nb) ∧ (r.toInt = (rs_sm gb nb eb pb).1 ∧ tp_a f1 t = (rs_sm gb nb eb pb).2) ∧ WF E G L1 f1 ∧ RP E G f f1 ∧ KP G [9, 4, 20] false f f1)) 0 0 (va_A (va_pl L f) sz)
def P_unit (l : Launch) (E : py_E) (G : wf_G) (wb : Int) (fr lo : Nat) : Prop := ∀ (L : List Nat) (f : py_F) (sz : Nat) (h : Nat) (t : Nat) (i : Int32) (b : Int32) (gb : rs_B) (nb : Int) (pb : Int) (eb : Nat) (bb : Int), WF E G L f → G.1 h = 5 → G.1 t = 9 → (0 ≤ b.toInt ∧ b.toInt ≤ 1) → (wb ≤ i.toInt ∧ i.toInt ≤ 6) → (b.toInt = bb) → (i.toInt = 6 - ((eb : Nat) : Int)) → (tp_l f t = nb ∧ tp_a f t = pb) → (0 ≤ pb ∧ nb ≤ 160) → (gfn f (G.2 t 0) = gb) → Met l yX4_readUnit w_X4_readUnit ({ frames := fr, cells := 0, slots := 0, locals := lo }) (py_Pc E [.ref h, .ref t, .int i, .int b] L f sz) (py_Qi E L f sz (fun r L1 f1 => (0 ≤ r.toInt ∧ r.toInt ≤ 1) ∧ (tp_l f1 t = nb) ∧ (pb ≤ tp_a f1 t) ∧ (r.toInt ≠ 0 → pb + 1 ≤ tp_a f1 t ∧ tp_a f1 t ≤ nb) ∧ (r.toInt = (rs_unb gb nb eb bb pb).1 ∧ tp_a f1 t = (rs_unb gb nb eb bb pb).2) ∧ WF E G L1 f1 ∧ RP E G f f1 ∧ KP G [9, 4, 20] false f f1)) 0 0 (va_A (va_pl L f) sz)
def P_chain1 (l : Launch) (E : py_E) (G : wf_G) (wb : Int) (fr lo : Nat) : Prop := ∀ (L : List Nat) (f : py_F) (sz : Nat) (h : Nat) (t : Nat) (i : Int32) (b : Int32) (gb : rs_B) (nb : Int) (pb : Int) (eb : Nat) (bb : Int), WF E G L f → G.1 h = 5 → G.1 t = 9 → (0 ≤ b.toInt ∧ b.toInt ≤ 1) → (wb ≤ i.toInt ∧ i.toInt ≤ 6) → (b.toInt = bb) → (i.toInt = 6 - ((eb : Nat) : Int)) → (tp_l f t = nb ∧ tp_a f t = pb) → (0 ≤ pb ∧ nb ≤ 160) → (gfn f (G.2 t 0) = gb) → Met l yX4_readChain w_X4_readChain ({ frames := fr, cells := 0, slots := 0, locals := lo }) (py_Pc E [.ref h, .ref t, .int 1, .int i, .int b] L f sz) (py_Qi E L f sz (fun r L1 f1 => (0 ≤ r.toInt ∧ r.toInt ≤ 1) ∧ (tp_l f1 t = nb) ∧ (pb ≤ tp_a f1 t) ∧ (r.toInt ≠ 0 → pb + 1 ≤ tp_a f1 t ∧ tp_a f1 t ≤ nb) ∧ (r.toInt = (rs_trb gb nb eb bb pb).1 ∧ tp_a f1 t = (rs_trb gb nb eb bb pb).2) ∧ WF E G L1 f1 ∧ RP E G f f1 ∧ KP G [9, 4, 20] false f f1)) 0 0 (va_A (va_pl L f) sz)
def P_chain0 (l : Launch) (E : py_E) (G : wf_G) (wb : Int) (fr lo : Nat) : Prop := ∀ (L : List Nat) (f : py_F) (sz : Nat) (h : Nat) (t : Nat) (i : Int32) (b : Int32) (gb : rs_B) (nb : Int) (pb : Int) (eb : Nat) (bb : Int), WF E G L f → G.1 h = 5 → G.1 t = 9 → (0 ≤ b.toInt ∧ b.toInt ≤ 1) → (wb ≤ i.toInt ∧ i.toInt ≤ 6) → (b.toInt = bb) → (i.toInt = 6 - ((eb : Nat) : Int)) → (tp_l f t = nb ∧ tp_a f t = pb) → (0 ≤ pb ∧ nb ≤ 160) → (gfn f (G.2 t 0) = gb) → Met l yX4_readChain w_X4_readChain ({ frames := fr, cells := 0, slots := 0, locals := lo }) (py_Pc E [.ref h, .ref t, .int 0, .int i, .int b] L f sz) (py_Qi E L f sz (fun r L1 f1 => (0 ≤ r.toInt ∧ r.toInt ≤ 1) ∧ (tp_l f1 t = nb) ∧ (pb ≤ tp_a f1 t) ∧ (r.toInt ≠ 0 → pb + 1 ≤ tp_a f1 t ∧ tp_a f1 t ≤ nb) ∧ (r.toInt = (rs_cdb gb nb eb bb pb).1 ∧ tp_a f1 t = (rs_cdb gb nb eb bb pb).2) ∧ WF E G L1 f1 ∧ RP E G f f1 ∧ KP G [9, 4, 20] false f f1)) 0 0 (va_A (va_pl L f) sz)
