theorem dX12_areHoused_0 : decode cX12_areHoused 0 = .ok (.iconst 0, 1) := by decide +kernel
theorem dX12_areHoused_1 : decode cX12_areHoused 1 = .ok (.istore_n 1, 1) := by decide +kernel
theorem dX12_areHoused_2 : decode cX12_areHoused 2 = .ok (.iload_n 1, 1) := by decide +kernel
theorem dX12_areHoused_3 : decode cX12_areHoused 3 = .ok (.bipush 8, 2) := by decide +kernel
theorem dX12_areHoused_5 : decode cX12_areHoused 5 = .ok (.if_icmp .ge 75, 3) := by decide +kernel
theorem dX12_areHoused_8 : decode cX12_areHoused 8 = .ok (.iconst 0, 1) := by decide +kernel
theorem dX12_areHoused_9 : decode cX12_areHoused 9 = .ok (.istore_n 2, 1) := by decide +kernel
theorem dX12_areHoused_10 : decode cX12_areHoused 10 = .ok (.iconst 0, 1) := by decide +kernel
theorem dX12_areHoused_11 : decode cX12_areHoused 11 = .ok (.istore_n 3, 1) := by decide +kernel
theorem dX12_areHoused_12 : decode cX12_areHoused 12 = .ok (.iload_n 3, 1) := by decide +kernel
theorem dX12_areHoused_13 : decode cX12_areHoused 13 = .ok (.aload_n 0, 1) := by decide +kernel
theorem dX12_areHoused_14 : decode cX12_areHoused 14 = .ok (.getfield 267, 3) := by decide +kernel
theorem dX12_areHoused_17 : decode cX12_areHoused 17 = .ok (.if_icmp .ge 31, 3) := by decide +kernel
theorem dX12_areHoused_20 : decode cX12_areHoused 20 = .ok (.iload_n 2, 1) := by decide +kernel
theorem dX12_areHoused_21 : decode cX12_areHoused 21 = .ok (.aload_n 0, 1) := by decide +kernel
theorem dX12_areHoused_22 : decode cX12_areHoused 22 = .ok (.getfield 43, 3) := by decide +kernel
theorem dX12_areHoused_25 : decode cX12_areHoused 25 = .ok (.iconst 4, 1) := by decide +kernel
theorem dX12_areHoused_26 : decode cX12_areHoused 26 = .ok (.iload_n 3, 1) := by decide +kernel
theorem dX12_areHoused_27 : decode cX12_areHoused 27 = .ok (.imul, 1) := by decide +kernel
theorem dX12_areHoused_28 : decode cX12_areHoused 28 = .ok (.iconst 1, 1) := by decide +kernel
theorem dX12_areHoused_29 : decode cX12_areHoused 29 = .ok (.iadd, 1) := by decide +kernel
theorem dX12_areHoused_30 : decode cX12_areHoused 30 = .ok (.iaload, 1) := by decide +kernel
theorem dX12_areHoused_31 : decode cX12_areHoused 31 = .ok (.iload_n 1, 1) := by decide +kernel
theorem dX12_areHoused_32 : decode cX12_areHoused 32 = .ok (.if_icmp .ne 7, 3) := by decide +kernel
theorem dX12_areHoused_35 : decode cX12_areHoused 35 = .ok (.iconst 1, 1) := by decide +kernel
theorem dX12_areHoused_36 : decode cX12_areHoused 36 = .ok (.goto 4, 3) := by decide +kernel
theorem dX12_areHoused_39 : decode cX12_areHoused 39 = .ok (.iconst 0, 1) := by decide +kernel
theorem dX12_areHoused_40 : decode cX12_areHoused 40 = .ok (.iadd, 1) := by decide +kernel
theorem dX12_areHoused_41 : decode cX12_areHoused 41 = .ok (.istore_n 2, 1) := by decide +kernel
theorem dX12_areHoused_42 : decode cX12_areHoused 42 = .ok (.iinc 3 1, 3) := by decide +kernel
theorem dX12_areHoused_45 : decode cX12_areHoused 45 = .ok (.goto (-33), 3) := by decide +kernel
theorem dX12_areHoused_48 : decode cX12_areHoused 48 = .ok (.iload_n 2, 1) := by decide +kernel
theorem dX12_areHoused_49 : decode cX12_areHoused 49 = .ok (.iload_n 1, 1) := by decide +kernel
theorem dX12_areHoused_50 : decode cX12_areHoused 50 = .ok (.aload_n 0, 1) := by decide +kernel
theorem dX12_areHoused_51 : decode cX12_areHoused 51 = .ok (.getfield 264, 3) := by decide +kernel
theorem dX12_areHoused_54 : decode cX12_areHoused 54 = .ok (.if_icmp .ge 14, 3) := by decide +kernel
theorem dX12_areHoused_57 : decode cX12_areHoused 57 = .ok (.aload_n 0, 1) := by decide +kernel
theorem dX12_areHoused_58 : decode cX12_areHoused 58 = .ok (.getfield 40, 3) := by decide +kernel
theorem dX12_areHoused_61 : decode cX12_areHoused 61 = .ok (.iconst 4, 1) := by decide +kernel
theorem dX12_areHoused_62 : decode cX12_areHoused 62 = .ok (.iload_n 1, 1) := by decide +kernel
theorem dX12_areHoused_63 : decode cX12_areHoused 63 = .ok (.imul, 1) := by decide +kernel
theorem dX12_areHoused_64 : decode cX12_areHoused 64 = .ok (.iaload, 1) := by decide +kernel
theorem dX12_areHoused_65 : decode cX12_areHoused 65 = .ok (.goto 4, 3) := by decide +kernel
theorem dX12_areHoused_68 : decode cX12_areHoused 68 = .ok (.iconst 0, 1) := by decide +kernel
theorem dX12_areHoused_69 : decode cX12_areHoused 69 = .ok (.if_icmp .le 5, 3) := by decide +kernel
theorem dX12_areHoused_72 : decode cX12_areHoused 72 = .ok (.iconst 0, 1) := by decide +kernel
theorem dX12_areHoused_73 : decode cX12_areHoused 73 = .ok (.ireturn, 1) := by decide +kernel
theorem dX12_areHoused_74 : decode cX12_areHoused 74 = .ok (.iinc 1 1, 3) := by decide +kernel
theorem dX12_areHoused_77 : decode cX12_areHoused 77 = .ok (.goto (-75), 3) := by decide +kernel
theorem dX12_areHoused_80 : decode cX12_areHoused 80 = .ok (.iconst 1, 1) := by decide +kernel
theorem dX12_areHoused_81 : decode cX12_areHoused 81 = .ok (.ireturn, 1) := by decide +kernel
theorem dX12_clauseText_0 : decode cX12_clauseText 0 = .ok (.aload_n 0, 1) := by decide +kernel
theorem dX12_clauseText_1 : decode cX12_clauseText 1 = .ok (.invokevirtual 146, 3) := by decide +kernel
theorem dX12_clauseText_4 : decode cX12_clauseText 4 = .ok (.istore_n 1, 1) := by decide +kernel
theorem dX12_clauseText_5 : decode cX12_clauseText 5 = .ok (.iload_n 1, 1) := by decide +kernel
theorem dX12_clauseText_6 : decode cX12_clauseText 6 = .ok (.bipush 108, 2) := by decide +kernel
theorem dX12_clauseText_8 : decode cX12_clauseText 8 = .ok (.if_icmp .ne 7, 3) := by decide +kernel
theorem dX12_clauseText_11 : decode cX12_clauseText 11 = .ok (.iconst 1, 1) := by decide +kernel
theorem dX12_clauseText_12 : decode cX12_clauseText 12 = .ok (.goto 4, 3) := by decide +kernel
theorem dX12_clauseText_15 : decode cX12_clauseText 15 = .ok (.iconst 0, 1) := by decide +kernel
theorem dX12_clauseText_16 : decode cX12_clauseText 16 = .ok (.istore_n 2, 1) := by decide +kernel
theorem dX12_clauseText_17 : decode cX12_clauseText 17 = .ok (.iload_n 2, 1) := by decide +kernel
theorem dX12_clauseText_18 : decode cX12_clauseText 18 = .ok (.ifCond .ne 9, 3) := by decide +kernel
theorem dX12_clauseText_21 : decode cX12_clauseText 21 = .ok (.iload_n 1, 1) := by decide +kernel
theorem dX12_clauseText_22 : decode cX12_clauseText 22 = .ok (.bipush 107, 2) := by decide +kernel
theorem dX12_clauseText_24 : decode cX12_clauseText 24 = .ok (.if_icmp .ne 28, 3) := by decide +kernel
theorem dX12_clauseText_27 : decode cX12_clauseText 27 = .ok (.iload_n 2, 1) := by decide +kernel
theorem dX12_clauseText_28 : decode cX12_clauseText 28 = .ok (.ifCond .eq 15, 3) := by decide +kernel
theorem dX12_clauseText_31 : decode cX12_clauseText 31 = .ok (.aload_n 0, 1) := by decide +kernel
theorem dX12_clauseText_32 : decode cX12_clauseText 32 = .ok (.getfield 264, 3) := by decide +kernel
theorem dX12_clauseText_35 : decode cX12_clauseText 35 = .ok (.bipush 8, 2) := by decide +kernel
theorem dX12_clauseText_37 : decode cX12_clauseText 37 = .ok (.if_icmp .ne 20, 3) := by decide +kernel
theorem dX12_clauseText_40 : decode cX12_clauseText 40 = .ok (.goto 12, 3) := by decide +kernel
theorem dX12_clauseText_43 : decode cX12_clauseText 43 = .ok (.aload_n 0, 1) := by decide +kernel
theorem dX12_clauseText_44 : decode cX12_clauseText 44 = .ok (.getfield 267, 3) := by decide +kernel
theorem dX12_clauseText_47 : decode cX12_clauseText 47 = .ok (.bipush 10, 2) := by decide +kernel
theorem dX12_clauseText_49 : decode cX12_clauseText 49 = .ok (.if_icmp .ne 8, 3) := by decide +kernel
theorem dX12_clauseText_52 : decode cX12_clauseText 52 = .ok (.aload_n 0, 1) := by decide +kernel
theorem dX12_clauseText_53 : decode cX12_clauseText 53 = .ok (.invokevirtual 143, 3) := by decide +kernel
theorem dX12_clauseText_56 : decode cX12_clauseText 56 = .ok (.return_, 1) := by decide +kernel
theorem dX12_clauseText_57 : decode cX12_clauseText 57 = .ok (.aload_n 0, 1) := by decide +kernel
theorem dX12_clauseText_58 : decode cX12_clauseText 58 = .ok (.dup, 1) := by decide +kernel
theorem dX12_clauseText_59 : decode cX12_clauseText 59 = .ok (.getfield 127, 3) := by decide +kernel
theorem dX12_clauseText_62 : decode cX12_clauseText 62 = .ok (.iconst 1, 1) := by decide +kernel
theorem dX12_clauseText_63 : decode cX12_clauseText 63 = .ok (.iadd, 1) := by decide +kernel
theorem dX12_clauseText_64 : decode cX12_clauseText 64 = .ok (.putfield 127, 3) := by decide +kernel
theorem dX12_clauseText_67 : decode cX12_clauseText 67 = .ok (.aload_n 0, 1) := by decide +kernel
theorem dX12_clauseText_68 : decode cX12_clauseText 68 = .ok (.iload_n 2, 1) := by decide +kernel
theorem dX12_clauseText_69 : decode cX12_clauseText 69 = .ok (.iload_n 2, 1) := by decide +kernel
theorem dX12_clauseText_70 : decode cX12_clauseText 70 = .ok (.ifCond .eq 10, 3) := by decide +kernel
theorem dX12_clauseText_73 : decode cX12_clauseText 73 = .ok (.aload_n 0, 1) := by decide +kernel
theorem dX12_clauseText_74 : decode cX12_clauseText 74 = .ok (.getfield 40, 3) := by decide +kernel
theorem dX12_clauseText_77 : decode cX12_clauseText 77 = .ok (.goto 7, 3) := by decide +kernel
theorem dX12_clauseText_80 : decode cX12_clauseText 80 = .ok (.aload_n 0, 1) := by decide +kernel
theorem dX12_clauseText_81 : decode cX12_clauseText 81 = .ok (.getfield 43, 3) := by decide +kernel
theorem dX12_clauseText_84 : decode cX12_clauseText 84 = .ok (.iconst 4, 1) := by decide +kernel
theorem dX12_clauseText_85 : decode cX12_clauseText 85 = .ok (.iload_n 2, 1) := by decide +kernel
theorem dX12_clauseText_86 : decode cX12_clauseText 86 = .ok (.ifCond .eq 10, 3) := by decide +kernel
theorem dX12_clauseText_89 : decode cX12_clauseText 89 = .ok (.aload_n 0, 1) := by decide +kernel
theorem dX12_clauseText_90 : decode cX12_clauseText 90 = .ok (.getfield 264, 3) := by decide +kernel
theorem dX12_clauseText_93 : decode cX12_clauseText 93 = .ok (.goto 7, 3) := by decide +kernel
theorem dX12_clauseText_96 : decode cX12_clauseText 96 = .ok (.aload_n 0, 1) := by decide +kernel
theorem dX12_clauseText_97 : decode cX12_clauseText 97 = .ok (.getfield 267, 3) := by decide +kernel
theorem dX12_clauseText_100 : decode cX12_clauseText 100 = .ok (.imul, 1) := by decide +kernel
theorem dX12_clauseText_101 : decode cX12_clauseText 101 = .ok (.invokevirtual 270, 3) := by decide +kernel
theorem dX12_clauseText_104 : decode cX12_clauseText 104 = .ok (.aload_n 0, 1) := by decide +kernel
theorem dX12_clauseText_105 : decode cX12_clauseText 105 = .ok (.dup, 1) := by decide +kernel
theorem dX12_clauseText_106 : decode cX12_clauseText 106 = .ok (.getfield 264, 3) := by decide +kernel
theorem dX12_clauseText_109 : decode cX12_clauseText 109 = .ok (.iload_n 2, 1) := by decide +kernel
theorem dX12_clauseText_110 : decode cX12_clauseText 110 = .ok (.ifCond .eq 7, 3) := by decide +kernel
theorem dX12_clauseText_113 : decode cX12_clauseText 113 = .ok (.iconst 1, 1) := by decide +kernel
theorem dX12_clauseText_114 : decode cX12_clauseText 114 = .ok (.goto 4, 3) := by decide +kernel
theorem dX12_clauseText_117 : decode cX12_clauseText 117 = .ok (.iconst 0, 1) := by decide +kernel
theorem dX12_clauseText_118 : decode cX12_clauseText 118 = .ok (.iadd, 1) := by decide +kernel
theorem dX12_clauseText_119 : decode cX12_clauseText 119 = .ok (.putfield 264, 3) := by decide +kernel
theorem dX12_clauseText_122 : decode cX12_clauseText 122 = .ok (.aload_n 0, 1) := by decide +kernel
theorem dX12_clauseText_123 : decode cX12_clauseText 123 = .ok (.dup, 1) := by decide +kernel
theorem dX12_clauseText_124 : decode cX12_clauseText 124 = .ok (.getfield 267, 3) := by decide +kernel
theorem dX12_clauseText_127 : decode cX12_clauseText 127 = .ok (.iload_n 2, 1) := by decide +kernel
theorem dX12_clauseText_128 : decode cX12_clauseText 128 = .ok (.ifCond .eq 7, 3) := by decide +kernel
theorem dX12_clauseText_131 : decode cX12_clauseText 131 = .ok (.iconst 0, 1) := by decide +kernel
theorem dX12_clauseText_132 : decode cX12_clauseText 132 = .ok (.goto 4, 3) := by decide +kernel
theorem dX12_clauseText_135 : decode cX12_clauseText 135 = .ok (.iconst 1, 1) := by decide +kernel
theorem dX12_clauseText_136 : decode cX12_clauseText 136 = .ok (.iadd, 1) := by decide +kernel
theorem dX12_clauseText_137 : decode cX12_clauseText 137 = .ok (.putfield 267, 3) := by decide +kernel
theorem dX12_clauseText_140 : decode cX12_clauseText 140 = .ok (.return_, 1) := by decide +kernel
theorem dX12_items_0 : decode cX12_items 0 = .ok (.iconst 0, 1) := by decide +kernel
theorem dX12_items_1 : decode cX12_items 1 = .ok (.istore 4, 2) := by decide +kernel
theorem dX12_items_3 : decode cX12_items 3 = .ok (.iload 4, 2) := by decide +kernel
theorem dX12_items_5 : decode cX12_items 5 = .ok (.iconst 4, 1) := by decide +kernel
theorem dX12_items_6 : decode cX12_items 6 = .ok (.if_icmp .ge 21, 3) := by decide +kernel
theorem dX12_items_9 : decode cX12_items 9 = .ok (.aload_n 2, 1) := by decide +kernel
theorem dX12_items_10 : decode cX12_items 10 = .ok (.iload_n 3, 1) := by decide +kernel
theorem dX12_items_11 : decode cX12_items 11 = .ok (.iload 4, 2) := by decide +kernel
theorem dX12_items_13 : decode cX12_items 13 = .ok (.iadd, 1) := by decide +kernel
theorem dX12_items_14 : decode cX12_items 14 = .ok (.iload_n 1, 1) := by decide +kernel
theorem dX12_items_15 : decode cX12_items 15 = .ok (.iload 4, 2) := by decide +kernel
theorem dX12_items_17 : decode cX12_items 17 = .ok (.invokestatic 242, 3) := by decide +kernel
theorem dX12_items_20 : decode cX12_items 20 = .ok (.iastore, 1) := by decide +kernel
theorem dX12_items_21 : decode cX12_items 21 = .ok (.iinc 4 1, 3) := by decide +kernel
theorem dX12_items_24 : decode cX12_items 24 = .ok (.goto (-21), 3) := by decide +kernel
theorem dX12_items_27 : decode cX12_items 27 = .ok (.iconst 0, 1) := by decide +kernel
theorem dX12_items_28 : decode cX12_items 28 = .ok (.istore 4, 2) := by decide +kernel
theorem dX12_items_30 : decode cX12_items 30 = .ok (.aload_n 0, 1) := by decide +kernel
theorem dX12_items_31 : decode cX12_items 31 = .ok (.iload_n 1, 1) := by decide +kernel
theorem dX12_items_32 : decode cX12_items 32 = .ok (.invokevirtual 246, 3) := by decide +kernel
theorem dX12_items_35 : decode cX12_items 35 = .ok (.istore 5, 2) := by decide +kernel
theorem dX12_items_37 : decode cX12_items 37 = .ok (.aload_n 0, 1) := by decide +kernel
theorem dX12_items_38 : decode cX12_items 38 = .ok (.getfield 134, 3) := by decide +kernel
theorem dX12_items_41 : decode cX12_items 41 = .ok (.iconst (-1), 1) := by decide +kernel
theorem dX12_items_42 : decode cX12_items 42 = .ok (.if_icmp .ne 82, 3) := by decide +kernel
theorem dX12_items_45 : decode cX12_items 45 = .ok (.iload 5, 2) := by decide +kernel
theorem dX12_items_47 : decode cX12_items 47 = .ok (.iconst (-1), 1) := by decide +kernel
theorem dX12_items_48 : decode cX12_items 48 = .ok (.if_icmp .eq 76, 3) := by decide +kernel
theorem dX12_items_51 : decode cX12_items 51 = .ok (.iload 4, 2) := by decide +kernel
theorem dX12_items_53 : decode cX12_items 53 = .ok (.iload 5, 2) := by decide +kernel
theorem dX12_items_55 : decode cX12_items 55 = .ok (.invokestatic 250, 3) := by decide +kernel
theorem dX12_items_58 : decode cX12_items 58 = .ok (.ifCond .ne 66, 3) := by decide +kernel
theorem dX12_items_61 : decode cX12_items 61 = .ok (.iload 4, 2) := by decide +kernel
theorem dX12_items_63 : decode cX12_items 63 = .ok (.iconst 1, 1) := by decide +kernel
theorem dX12_items_64 : decode cX12_items 64 = .ok (.iload 5, 2) := by decide +kernel
theorem dX12_items_66 : decode cX12_items 66 = .ok (.ishl, 1) := by decide +kernel
theorem dX12_items_67 : decode cX12_items 67 = .ok (.ior, 1) := by decide +kernel
theorem dX12_items_68 : decode cX12_items 68 = .ok (.istore 4, 2) := by decide +kernel
theorem dX12_items_70 : decode cX12_items 70 = .ok (.aload_n 0, 1) := by decide +kernel
theorem dX12_items_71 : decode cX12_items 71 = .ok (.dup, 1) := by decide +kernel
theorem dX12_items_72 : decode cX12_items 72 = .ok (.getfield 127, 3) := by decide +kernel
theorem dX12_items_75 : decode cX12_items 75 = .ok (.iconst 1, 1) := by decide +kernel
theorem dX12_items_76 : decode cX12_items 76 = .ok (.iadd, 1) := by decide +kernel
theorem dX12_items_77 : decode cX12_items 77 = .ok (.putfield 127, 3) := by decide +kernel
theorem dX12_items_80 : decode cX12_items 80 = .ok (.aload_n 2, 1) := by decide +kernel
theorem dX12_items_81 : decode cX12_items 81 = .ok (.iload_n 3, 1) := by decide +kernel
theorem dX12_items_82 : decode cX12_items 82 = .ok (.iload 5, 2) := by decide +kernel
theorem dX12_items_84 : decode cX12_items 84 = .ok (.iadd, 1) := by decide +kernel
theorem dX12_items_85 : decode cX12_items 85 = .ok (.aload_n 0, 1) := by decide +kernel
theorem dX12_items_86 : decode cX12_items 86 = .ok (.iload_n 1, 1) := by decide +kernel
theorem dX12_items_87 : decode cX12_items 87 = .ok (.iload 5, 2) := by decide +kernel
theorem dX12_items_89 : decode cX12_items 89 = .ok (.invokestatic 254, 3) := by decide +kernel
theorem dX12_items_92 : decode cX12_items 92 = .ok (.iload_n 1, 1) := by decide +kernel
theorem dX12_items_93 : decode cX12_items 93 = .ok (.iload 5, 2) := by decide +kernel
theorem dX12_items_95 : decode cX12_items 95 = .ok (.invokestatic 257, 3) := by decide +kernel
theorem dX12_items_98 : decode cX12_items 98 = .ok (.invokevirtual 260, 3) := by decide +kernel
theorem dX12_items_101 : decode cX12_items 101 = .ok (.iastore, 1) := by decide +kernel
theorem dX12_items_102 : decode cX12_items 102 = .ok (.aload_n 0, 1) := by decide +kernel
theorem dX12_items_103 : decode cX12_items 103 = .ok (.getfield 134, 3) := by decide +kernel
theorem dX12_items_106 : decode cX12_items 106 = .ok (.iconst (-1), 1) := by decide +kernel
theorem dX12_items_107 : decode cX12_items 107 = .ok (.if_icmp .ne 11, 3) := by decide +kernel
theorem dX12_items_110 : decode cX12_items 110 = .ok (.aload_n 0, 1) := by decide +kernel
theorem dX12_items_111 : decode cX12_items 111 = .ok (.iload_n 1, 1) := by decide +kernel
theorem dX12_items_112 : decode cX12_items 112 = .ok (.invokevirtual 246, 3) := by decide +kernel
theorem dX12_items_115 : decode cX12_items 115 = .ok (.goto 4, 3) := by decide +kernel
theorem dX12_items_118 : decode cX12_items 118 = .ok (.iconst (-1), 1) := by decide +kernel
theorem dX12_items_119 : decode cX12_items 119 = .ok (.istore 5, 2) := by decide +kernel
theorem dX12_items_121 : decode cX12_items 121 = .ok (.goto (-84), 3) := by decide +kernel
theorem dX12_items_124 : decode cX12_items 124 = .ok (.return_, 1) := by decide +kernel
def w_X12_items : List Cond := .code yX12_items cX12_items 6 none :: ([Cond.methodLink RX12 246 yX12_itemNow, Cond.instanceMethod yX12_itemNow, Cond.selects RX12 yX12_itemNow yX12_itemNow, Cond.initialized RX12, Cond.fieldLink RX12 134 "HeadYearModel" "wrong" "I", Cond.methodLink RX12 250 yX12_has, Cond.static yX12_has, Cond.fieldLink RX12 127 "HeadYearModel" "at" "I", Cond.methodLink RX12 254 yX12_lowest, Cond.static yX12_lowest, Cond.methodLink RX12 257 yX12_highest, Cond.static yX12_highest, Cond.methodLink RX12 260 yX12_number, Cond.instanceMethod yX12_number, Cond.selects RX12 yX12_number yX12_number, Cond.methodLink RX12 242 yX12_usual, Cond.static yX12_usual] ++ (u_ws RX12 TX12 54 ++ (w_X12_itemNow ++ (w_X12_has ++ (w_X12_lowest ++ (w_X12_highest ++ (w_X12_number ++ (w_X12_usual ++ ([])))))))))
theorem in_X12_items_X12 : ∀ w ∈ u_ws RX12 TX12 54, w ∈ w_X12_items := fun _ h => List.mem_cons_of_mem _ (List.mem_append_right _ (List.mem_append_left _ h))
theorem gg_X12_items_X12_itemNow : GoodIn w_X12_items w_X12_itemNow := goodIn_sub (fun _ h => List.mem_cons_of_mem _ (List.mem_append_right _ (List.mem_append_right _ (List.mem_append_left _ h)))) (by decide +kernel)
theorem gg_X12_items_X12_has : GoodIn w_X12_items w_X12_has := goodIn_sub (fun _ h => List.mem_cons_of_mem _ (List.mem_append_right _ (List.mem_append_right _ (List.mem_append_right _ (List.mem_append_left _ h))))) (by decide +kernel)
theorem gg_X12_items_X12_lowest : GoodIn w_X12_items w_X12_lowest := goodIn_sub (fun _ h => List.mem_cons_of_mem _ (List.mem_append_right _ (List.mem_append_right _ (List.mem_append_right _ (List.mem_append_right _ (List.mem_append_left _ h)))))) (by decide +kernel)
theorem gg_X12_items_X12_highest : GoodIn w_X12_items w_X12_highest := goodIn_sub (fun _ h => List.mem_cons_of_mem _ (List.mem_append_right _ (List.mem_append_right _ (List.mem_append_right _ (List.mem_append_right _ (List.mem_append_right _ (List.mem_append_left _ h))))))) (by decide +kernel)
theorem gg_X12_items_X12_number : GoodIn w_X12_items w_X12_number := goodIn_sub (fun _ h => List.mem_cons_of_mem _ (List.mem_append_right _ (List.mem_append_right _ (List.mem_append_right _ (List.mem_append_right _ (List.mem_append_right _ (List.mem_append_right _ (List.mem_append_left _ h)))))))) (by decide +kernel)
theorem gg_X12_items_X12_usual : GoodIn w_X12_items w_X12_usual := goodIn_sub (fun _ h => List.mem_cons_of_mem _ (List.mem_append_right _ (List.mem_append_right _ (List.mem_append_right _ (List.mem_append_right _ (List.mem_append_right _ (List.mem_append_right _ (List.mem_append_right _ (List.mem_append_left _ h))))))))) (by decide +kernel)
theorem g_X12_items_X12_has_250 : GoodIn w_X12_items (va_wsS RX12 250 yX12_has w_X12_has) := goodIn_app (goodIn_of _ (by decide +kernel)) gg_X12_items_X12_has
theorem g_X12_items_X12_highest_257 : GoodIn w_X12_items (va_wsS RX12 257 yX12_highest w_X12_highest) := goodIn_app (goodIn_of _ (by decide +kernel)) gg_X12_items_X12_highest
theorem g_X12_items_X12_itemNow_246 : GoodIn w_X12_items (wsV RX12 246 RX12 yX12_itemNow w_X12_itemNow) := goodIn_app (goodIn_of _ (by decide +kernel)) gg_X12_items_X12_itemNow
theorem g_X12_items_X12_lowest_254 : GoodIn w_X12_items (va_wsS RX12 254 yX12_lowest w_X12_lowest) := goodIn_app (goodIn_of _ (by decide +kernel)) gg_X12_items_X12_lowest
theorem g_X12_items_X12_number_260 : GoodIn w_X12_items (wsV RX12 260 RX12 yX12_number w_X12_number) := goodIn_app (goodIn_of _ (by decide +kernel)) gg_X12_items_X12_number
theorem g_X12_items_X12_usual_242 : GoodIn w_X12_items (va_wsS RX12 242 yX12_usual w_X12_usual) := goodIn_app (goodIn_of _ (by decide +kernel)) gg_X12_items_X12_usual
theorem fk_3_4 {E : py_E} {G : wf_G} {L L1 : List Nat} {f f1 : py_F} {m : Nat} (hWF : WF E G L1 f1) (Tm : G.1 m = 13) (h : FK [3, 4] f f1 m) {v0 : Int32} {v2 : Int32} {v3 : Int32} {v4 : Int32} {v5 : Int32} {v13 : Int32} {v14 : Int32} {v19 : Int32} {v20 : Int32} {v24 : Int32} {v25 : Int32} {v29 : Int32} {v30 : Int64} {v31 : Int32} {v32 : Int32} {v33 : Int32} {v34 : Int32} {v43 : Int32} {v48 : Int64} {v51 : Int32} {v52 : Int64} {v53 : Int32} (hr : py_at L f m (.inr (12, [.int v0, .ref (G.2 m 1), .int v2, .int v3, .int v4, .int v5, .ref (G.2 m 6), .ref (G.2 m 7), .ref (G.2 m 8), .ref (G.2 m 9), .ref (G.2 m 10), .ref (G.2 m 11), .ref (G.2 m 12), .int v13, .int v14, .ref (G.2 m 15), .ref (G.2 m 16), .ref (G.2 m 17), .ref (G.2 m 18), .int v19, .int v20, .ref (G.2 m 21), .ref (G.2 m 22), .ref (G.2 m 23), .int v24, .int v25, .ref (G.2 m 26), .ref (G.2 m 27), .ref (G.2 m 28), .int v29, .long v30, .int v31, .int v32, .int v33, .int v34, .ref (G.2 m 35), .ref (G.2 m 36), .ref (G.2 m 37), .ref (G.2 m 38), .ref (G.2 m 39), .ref (G.2 m 40), .ref (G.2 m 41), .ref (G.2 m 42), .int v43, .ref (G.2 m 44), .ref (G.2 m 45), .ref (G.2 m 46), .ref (G.2 m 47), .long v48, .ref (G.2 m 49), .ref (G.2 m 50), .int v51, .long v52, .int v53]))) : ∃ (w3 : Int32) (w4 : Int32), py_at L1 f1 m (.inr (12, [.int v0, .ref (G.2 m 1), .int v2, .int w3, .int w4, .int v5, .ref (G.2 m 6), .ref (G.2 m 7), .ref (G.2 m 8), .ref (G.2 m 9), .ref (G.2 m 10), .ref (G.2 m 11), .ref (G.2 m 12), .int v13, .int v14, .ref (G.2 m 15), .ref (G.2 m 16), .ref (G.2 m 17), .ref (G.2 m 18), .int v19, .int v20, .ref (G.2 m 21), .ref (G.2 m 22), .ref (G.2 m 23), .int v24, .int v25, .ref (G.2 m 26), .ref (G.2 m 27), .ref (G.2 m 28), .int v29, .long v30, .int v31, .int v32, .int v33, .int v34, .ref (G.2 m 35), .ref (G.2 m 36), .ref (G.2 m 37), .ref (G.2 m 38), .ref (G.2 m 39), .ref (G.2 m 40), .ref (G.2 m 41), .ref (G.2 m 42), .int v43, .ref (G.2 m 44), .ref (G.2 m 45), .ref (G.2 m 46), .ref (G.2 m 47), .long v48, .ref (G.2 m 49), .ref (G.2 m 50), .int v51, .long v52, .int v53])) := by
  obtain ⟨w0, w2, w3, w4, w5, w13, w14, w19, w20, w24, w25, w29, w30, w31, w32, w33, w34, w43, w48, w51, w52, w53, hr1, b2, b13, b14, b19, b20, b24, b25, b29, b31, b43, b51, b53⟩ := wg_12 hWF Tm
  have e0 : w0 = v0 := Value.int.inj (Option.some.inj (show some (Value.int w0) = some (Value.int v0) from fk_i h hr hr1 0 (by decide) (by decide)))
  subst e0
  have e2 : w2 = v2 := Value.int.inj (Option.some.inj (show some (Value.int w2) = some (Value.int v2) from fk_i h hr hr1 2 (by decide) (by decide)))
  subst e2
  have e5 : w5 = v5 := Value.int.inj (Option.some.inj (show some (Value.int w5) = some (Value.int v5) from fk_i h hr hr1 5 (by decide) (by decide)))
  subst e5
  have e13 : w13 = v13 := Value.int.inj (Option.some.inj (show some (Value.int w13) = some (Value.int v13) from fk_i h hr hr1 13 (by decide) (by decide)))
  subst e13
  have e14 : w14 = v14 := Value.int.inj (Option.some.inj (show some (Value.int w14) = some (Value.int v14) from fk_i h hr hr1 14 (by decide) (by decide)))
  subst e14
  have e19 : w19 = v19 := Value.int.inj (Option.some.inj (show some (Value.int w19) = some (Value.int v19) from fk_i h hr hr1 19 (by decide) (by decide)))
  subst e19
  have e20 : w20 = v20 := Value.int.inj (Option.some.inj (show some (Value.int w20) = some (Value.int v20) from fk_i h hr hr1 20 (by decide) (by decide)))
  subst e20
  have e24 : w24 = v24 := Value.int.inj (Option.some.inj (show some (Value.int w24) = some (Value.int v24) from fk_i h hr hr1 24 (by decide) (by decide)))
  subst e24
  have e25 : w25 = v25 := Value.int.inj (Option.some.inj (show some (Value.int w25) = some (Value.int v25) from fk_i h hr hr1 25 (by decide) (by decide)))
  subst e25
  have e29 : w29 = v29 := Value.int.inj (Option.some.inj (show some (Value.int w29) = some (Value.int v29) from fk_i h hr hr1 29 (by decide) (by decide)))
  subst e29
  have e30 : w30 = v30 := Value.long.inj (Option.some.inj (show some (Value.long w30) = some (Value.long v30) from fk_i h hr hr1 30 (by decide) (by decide)))
  subst e30
  have e31 : w31 = v31 := Value.int.inj (Option.some.inj (show some (Value.int w31) = some (Value.int v31) from fk_i h hr hr1 31 (by decide) (by decide)))
  subst e31
  have e32 : w32 = v32 := Value.int.inj (Option.some.inj (show some (Value.int w32) = some (Value.int v32) from fk_i h hr hr1 32 (by decide) (by decide)))
  subst e32
  have e33 : w33 = v33 := Value.int.inj (Option.some.inj (show some (Value.int w33) = some (Value.int v33) from fk_i h hr hr1 33 (by decide) (by decide)))
  subst e33
  have e34 : w34 = v34 := Value.int.inj (Option.some.inj (show some (Value.int w34) = some (Value.int v34) from fk_i h hr hr1 34 (by decide) (by decide)))
  subst e34
  have e43 : w43 = v43 := Value.int.inj (Option.some.inj (show some (Value.int w43) = some (Value.int v43) from fk_i h hr hr1 43 (by decide) (by decide)))
  subst e43
  have e48 : w48 = v48 := Value.long.inj (Option.some.inj (show some (Value.long w48) = some (Value.long v48) from fk_i h hr hr1 48 (by decide) (by decide)))
  subst e48
  have e51 : w51 = v51 := Value.int.inj (Option.some.inj (show some (Value.int w51) = some (Value.int v51) from fk_i h hr hr1 51 (by decide) (by decide)))
  subst e51
  have e52 : w52 = v52 := Value.long.inj (Option.some.inj (show some (Value.long w52) = some (Value.long v52) from fk_i h hr hr1 52 (by decide) (by decide)))
  subst e52
  have e53 : w53 = v53 := Value.int.inj (Option.some.inj (show some (Value.int w53) = some (Value.int v53) from fk_i h hr hr1 53 (by decide) (by decide)))
  subst e53
  exact ⟨w3, w4, hr1⟩
set_option maxHeartbeats 4000000 in
set_option maxRecDepth 100000 in
theorem c_X12_items50 (l : Launch) (E : py_E) (G : wf_G) (L : List Nat) (f : py_F) (sz : Nat) (u : Nat) (q : Nat) (b : Int32) (hG : GT G) (hWF : WF E G L f) (Tu : G.1 u = 13) (Tq : G.1 q = 50) (Bb : (0 ≤ b.toInt ∧ b.toInt ≤ 28)) (hp0 : 0 ≤ mi f u 3 ∧ mi f u 4 = -1) : Met l yX12_items w_X12_items ({ frames := 3, cells := 0, slots := 0, locals := 64 }) (py_Pc E [.ref u, .int 1, .ref q, .int b] L f sz) (py_Qv E L f sz (fun L1 f1 => (mi f u 3 ≤ mi f1 u 3) ∧ WF E G L1 f1 ∧ KP G [50, 13] false f f1 ∧ FK [3, 4] f f1 u)) 0 0 (va_A (va_pl L f) sz) := by
  refine Met.ofW (cc := cX12_items) (maxL := 6) (ret := none) (by decide) rfl ?_
  intro p e s m args below meth c s₁ B hml hv
  obtain ⟨rfl, rfl, hw⟩ := py_start hv
  have G0 : CallFix p m c cX12_items 6 s _ w_X12_items RX12 := ⟨B.exec, B.bytes, hml, findClass_of_methodNamed B.named, atoms_spec (ws := w_X12_items) B.pre⟩
  have hr := B.returns
  have hlk := B.notSynchronized
  have kcm1 : (-1 : Int32).toInt = -1 := rfl
  have kc0 : (0 : Int32).toInt = 0 := rfl
  have kc1 : (1 : Int32).toInt = 1 := rfl
  have kc4 : (4 : Int32).toInt = 4 := rfl
  have hl := lv_entry ([.ref u, .int 1, .ref q, .int b]) (n := 6) (Nat.le_of_ble_eq_true rfl)
  rw [lg_entry_eq]
  generalize (lg_sl ([.ref u, .int 1, .ref q, .int b]) ++ List.replicate (6 - (lg_sl ([.ref u, .int 1, .ref q, .int b])).length) Slot.unset).toArray = ls at hl ⊢
  have hl : lv_has ls 6 [(0, .ref u), (1, .int 1), (2, .ref q), (3, .int b)] := hl
  have hFK : FK [3, 4] f f u := FK.refl
  have hKP : KP G [50, 13] false f f := KP.refl
  refine lv_iconst (v := 0) G0.1 G0.2.1 dX12_items_0 (by decide) ?_
  refine lv_istore (lv' := [(4, .int 0), (0, .ref u), (1, .int 1), (2, .ref q), (3, .int b)]) G0.1 G0.2.1 dX12_items_1 hl (by decide) rfl (fun ls hl => ?_)
  have lo_3 : ∀ n_3 : Nat, ∀ (v_1 : Int32) (L_j3 : List Nat) (f_j3 : py_F) (H_j3 : Heap) (locs : List Loc) (ls : Array Slot), (2147483647 - v_1.toInt).toNat = n_3 → (0 ≤ v_1.toInt ∧ v_1.toInt ≤ 4) → WF E G L_j3 f_j3 → KP G [50, 13] false f f_j3 → FK [3, 4] f f_j3 u → py_W E (va_A (va_pl L f) s.heap.size) s L_j3 f_j3 H_j3 locs → lv_has ls 6 [(4, .int v_1), (0, .ref u), (1, .int 1), (2, .ref q), (3, .int b)] → W p l e (headSpec w_X12_items ({ frames := 3, cells := 0, slots := 0, locals := 64 })).room s m ([.ref u, .int 1, .ref q, .int b] : List Value).toArray below meth c H_j3 locs 0 0 (MQ below (py_Qv E L f s.heap.size (fun L1 f1 => (mi f u 3 ≤ mi f1 u 3) ∧ WF E G L1 f1 ∧ KP G [50, 13] false f f1 ∧ FK [3, 4] f f1 u)) ([.ref u, .int 1, .ref q, .int b] : List Value).toArray s 0 0 (va_A (va_pl L f) s.heap.size)) (F0 m 3 ls []) := by
    intro n_3
    induction n_3 using Nat.strongRecOn with
    | _ n_3 ih_3 =>
      intro v_1 L_j3 f_j3 H_j3 locs ls hn_3 bv_1 hWF hKP hFK hw hl
      refine lv_iload G0.1 G0.2.1 dX12_items_3 (lv_at hl 0 rfl) ?_
      refine lv_iconst (v := 4) G0.1 G0.2.1 dX12_items_5 (by decide) ?_
      refine lv_icmp_ge (tgt := 27) G0.1 G0.2.1 dX12_items_6 (by decide) (fun c_2 => ?_) (fun c_2 => ?_)
      · skip
        have tc_2 := ti_le c_2
        refine lv_iconst (v := 0) G0.1 G0.2.1 dX12_items_27 (by decide) ?_
        refine lv_istore (lv' := [(4, .int 0), (0, .ref u), (1, .int 1), (2, .ref q), (3, .int b)]) G0.1 G0.2.1 dX12_items_28 hl (by decide) rfl (fun ls hl => ?_)
        refine lv_aload_n G0.1 G0.2.1 dX12_items_30 rfl (lv_at hl 1 rfl) ?_
        refine lv_iload_n G0.1 G0.2.1 dX12_items_31 rfl (lv_at hl 2 rfl) ?_
        obtain ⟨v_3, v_4, v_5, v_6, v_7, v_8, v_9, v_10, v_11, v_12, v_13, v_14, y_15, v_16, v_17, v_18, v_19, v_20, y_21, v_22, y_23, v_24, hr_37, b_25, b_26, b_27, b_28, b_29, b_30, b_31, b_32, b_33, b_34, b_35, b_36⟩ := wg_12 hWF Tu
        have tq_38 := mi_row hr_37 2 rfl
        have tq_39 := mi_row hr_37 3 rfl
        have bv_5 := wf_free v_5
        have tq_40 := mi_row hr_37 4 rfl
        have bv_6 := wf_free v_6
        refine py_calli hw (va_runV (As := [.int 1]) (rest := []) G0 (c_X12_itemNow l E G L_j3 f_j3 H_j3.size u 1 hG hWF Tu ⟨by omega, by omega⟩ (show 0 ≤ mi f_j3 u 3 by omega)) (cwV 1 G0.2.2.2.2 g_X12_items_X12_itemNow_246 rfl rfl rfl (by decide +kernel) ⟨(Nat.le_of_ble_eq_true rfl), (Nat.le_of_ble_eq_true rfl)⟩) (py_preV hw (C := RX12) (T := TX12) (N := 54) rfl hr_37) rfl rfl hl.1 rfl (lv_room (Nat.le_of_ble_eq_true rfl)) dX12_items_32 ⟨(Nat.le_of_ble_eq_true rfl), (Nat.le_of_ble_eq_true rfl)⟩) (fun r_45 L_41 f_42 H_43 locs hp_44 hw => ?_)
        obtain ⟨b_48, en_46, en_47, hWF, kp_49, fk_50⟩ := hp_44
        have hFK := hFK.trans fk_50 (by decide)
        have hKP := hKP.trans kp_49 (by decide) (by decide)
        obtain ⟨v_51, hr_52⟩ := fk_3 hWF Tu fk_50 hr_37
        have tq_53 := mi_row hr_52 2 rfl
        have tq_54 := mi_row hr_52 3 rfl
        have bv_51 := wf_free v_51
        have tq_55 := mi_row hr_52 4 rfl
        have bv_6 := wf_free v_6
        refine lv_istore (lv' := [(5, .int r_45), (4, .int 0), (0, .ref u), (1, .int 1), (2, .ref q), (3, .int b)]) G0.1 G0.2.1 dX12_items_35 hl (by decide) rfl (fun ls hl => ?_)
        have lo_37 : ∀ n_37 : Nat, ∀ (v_56 : Int32) (v_57 : Int32) (L_j37 : List Nat) (f_j37 : py_F) (H_j37 : Heap) (locs : List Loc) (ls : Array Slot), (mi f u 2 - mi f_j37 u 3).toNat = n_37 → ((-1) ≤ v_56.toInt ∧ v_56.toInt ≤ 3) → WF E G L_j37 f_j37 → KP G [50, 13] false f f_j37 → FK [3, 4] f f_j37 u → (mi f u 3 ≤ mi f_j37 u 3) → (v_56.toInt ≠ -1 → mi f_j37 u 3 < mi f u 2) → (mi f_j37 u 2 = mi f u 2) → py_W E (va_A (va_pl L f) s.heap.size) s L_j37 f_j37 H_j37 locs → lv_has ls 6 [(5, .int v_56), (4, .int v_57), (0, .ref u), (1, .int 1), (2, .ref q), (3, .int b)] → W p l e (headSpec w_X12_items ({ frames := 3, cells := 0, slots := 0, locals := 64 })).room s m ([.ref u, .int 1, .ref q, .int b] : List Value).toArray below meth c H_j37 locs 0 0 (MQ below (py_Qv E L f s.heap.size (fun L1 f1 => (mi f u 3 ≤ mi f1 u 3) ∧ WF E G L1 f1 ∧ KP G [50, 13] false f f1 ∧ FK [3, 4] f f1 u)) ([.ref u, .int 1, .ref q, .int b] : List Value).toArray s 0 0 (va_A (va_pl L f) s.heap.size)) (F0 m 37 ls []) := by
          intro n_37
          induction n_37 using Nat.strongRecOn with
          | _ n_37 ih_37 =>
            intro v_56 v_57 L_j37 f_j37 H_j37 locs ls hn_37 bv_56 hWF hKP hFK iv0 iv1 iv2 hw hl
            refine lv_aload_n G0.1 G0.2.1 dX12_items_37 rfl (lv_at hl 2 rfl) ?_
            obtain ⟨v_58, v_59, v_60, v_61, v_62, v_63, v_64, v_65, v_66, v_67, v_68, v_69, y_70, v_71, v_72, v_73, v_74, v_75, y_76, v_77, y_78, v_79, hr_92, b_80, b_81, b_82, b_83, b_84, b_85, b_86, b_87, b_88, b_89, b_90, b_91⟩ := wg_12 hWF Tu
            have tq_93 := mi_row hr_92 2 rfl
            have tq_94 := mi_row hr_92 3 rfl
            have bv_60 := wf_free v_60
            have tq_95 := mi_row hr_92 4 rfl
            have bv_61 := wf_free v_61
            refine py_get (C := RX12) (T := TX12) (N := 54) (k := 4) (v := .int v_61) G0 hw in_X12_items_X12 rfl hr_92 (by decide) (by decide +kernel) rfl dX12_items_38 ?_
            refine lv_iconst (v := (-1)) G0.1 G0.2.1 dX12_items_41 (by decide) ?_
            refine lv_icmp_ne (tgt := 124) G0.1 G0.2.1 dX12_items_42 (by decide) (fun c_96 => ?_) (fun c_96 => ?_)
            · skip
              have tc_96 := ti_ne c_96
              exact py_vret G0 hr hlk hw ⟨(by first | omega | (intro q; omega)), hWF, hKP, hFK⟩ dX12_items_124
            · skip
              have tc_96 := ti_eq c_96
              refine lv_iload G0.1 G0.2.1 dX12_items_45 (lv_at hl 0 rfl) ?_
              refine lv_iconst (v := (-1)) G0.1 G0.2.1 dX12_items_47 (by decide) ?_
              refine lv_icmp_eq (tgt := 124) G0.1 G0.2.1 dX12_items_48 (by decide) (fun c_97 => ?_) (fun c_97 => ?_)
              · skip
                have tc_97 := ti_eq c_97
                exact py_vret G0 hr hlk hw ⟨(by first | omega | (intro q; omega)), hWF, hKP, hFK⟩ dX12_items_124
              · skip
                have tc_97 := ti_ne c_97
                refine lv_iload G0.1 G0.2.1 dX12_items_51 (lv_at hl 1 rfl) ?_
                refine lv_iload G0.1 G0.2.1 dX12_items_53 (lv_at hl 0 rfl) ?_
                refine py_calli hw (va_runS (As := [.int v_57, .int v_56]) (rest := []) G0 (c_X12_has l E G L_j37 f_j37 H_j37.size v_57 v_56 hG hWF) (va_cwS 2 G0.2.2.2.2 g_X12_items_X12_has_250 rfl rfl rfl (by decide +kernel) ⟨(Nat.le_of_ble_eq_true rfl), (Nat.le_of_ble_eq_true rfl)⟩) (py_preS hw) rfl rfl hl.1 rfl (lv_room (Nat.le_of_ble_eq_true rfl)) dX12_items_55 ⟨(Nat.le_of_ble_eq_true rfl), (Nat.le_of_ble_eq_true rfl)⟩) (fun r_102 L_98 f_99 H_100 locs hp_101 hw => ?_)
                obtain ⟨b_105, en_103, en_104, rfl, rfl⟩ := hp_101
                refine lv_if_ne (tgt := 124) G0.1 G0.2.1 dX12_items_58 (by decide) (fun c_106 => ?_) (fun c_106 => ?_)
                · skip
                  have tc_106 := ti_ne c_106
                  exact py_vret G0 hr hlk hw ⟨(by first | omega | (intro q; omega)), hWF, hKP, hFK⟩ dX12_items_124
                · skip
                  have tc_106 := ti_eq c_106
                  refine lv_iload G0.1 G0.2.1 dX12_items_61 (lv_at hl 1 rfl) ?_
                  refine lv_iconst (v := 1) G0.1 G0.2.1 dX12_items_63 (by decide) ?_
                  refine lv_iload G0.1 G0.2.1 dX12_items_64 (lv_at hl 0 rfl) ?_
                  refine lv_ishl G0.1 G0.2.1 dX12_items_66 ?_
                  refine lv_topi (fun x_107 ex_107 => ?_)
                  first | have bx_107 : 0 ≤ x_107.toInt ∧ x_107.toInt ≤ 512 := (by rcases ti_ten v_56 (by omega) (by omega) with h | h | h | h | h | h | h | h | h | h <;> (rw [ex_107, h]; decide +kernel)) | skip
                  refine lv_ior G0.1 G0.2.1 dX12_items_67 ?_
                  refine lv_topi (fun x_108 ex_108 => ?_)
                  first | have bx_108 := ti_or ex_108 ⟨by omega, by omega⟩ ⟨by omega, by omega⟩ | skip
                  refine lv_istore (lv' := [(4, .int x_108), (5, .int v_56), (0, .ref u), (1, .int 1), (2, .ref q), (3, .int b)]) G0.1 G0.2.1 dX12_items_68 hl (by decide) rfl (fun ls hl => ?_)
                  refine lv_aload_n G0.1 G0.2.1 dX12_items_70 rfl (lv_at hl 2 rfl) ?_
                  refine lv_dup G0.1 G0.2.1 dX12_items_71 rfl ?_
                  refine py_get (C := RX12) (T := TX12) (N := 54) (k := 3) (v := .int v_60) G0 hw in_X12_items_X12 rfl hr_92 (by decide) (by decide +kernel) rfl dX12_items_72 ?_
                  refine lv_iconst (v := 1) G0.1 G0.2.1 dX12_items_75 (by decide) ?_
                  refine lv_iadd G0.1 G0.2.1 dX12_items_76 ?_
                  refine lv_topi (fun x_109 ex_109 => ?_)
                  first | have tx_109 := ti_add ex_109 (by omega) (by omega) | skip
                  refine py_put (C := RX12) (T := TX12) (N := 54) (k := 3) (v := .int x_109) (fs' := [.int v_58, .ref (G.2 u 1), .int v_59, .int x_109, .int v_61, .int v_62, .ref (G.2 u 6), .ref (G.2 u 7), .ref (G.2 u 8), .ref (G.2 u 9), .ref (G.2 u 10), .ref (G.2 u 11), .ref (G.2 u 12), .int v_63, .int v_64, .ref (G.2 u 15), .ref (G.2 u 16), .ref (G.2 u 17), .ref (G.2 u 18), .int v_65, .int v_66, .ref (G.2 u 21), .ref (G.2 u 22), .ref (G.2 u 23), .int v_67, .int v_68, .ref (G.2 u 26), .ref (G.2 u 27), .ref (G.2 u 28), .int v_69, .long y_70, .int v_71, .int v_72, .int v_73, .int v_74, .ref (G.2 u 35), .ref (G.2 u 36), .ref (G.2 u 37), .ref (G.2 u 38), .ref (G.2 u 39), .ref (G.2 u 40), .ref (G.2 u 41), .ref (G.2 u 42), .int v_75, .ref (G.2 u 44), .ref (G.2 u 45), .ref (G.2 u 46), .ref (G.2 u 47), .long y_76, .ref (G.2 u 49), .ref (G.2 u 50), .int v_77, .long y_78, .int v_79]) (ty0 := tyX12) G0 hw tyX12_ok nmX12 in_X12_items_X12 rfl hr_92 (by decide) (by decide +kernel) rfl rfl rfl rfl (Nat.le_of_ble_eq_true rfl) rfl dX12_items_77 (fun f_110 H_111 locs h_112 x_113 hw => ?_)
                  have hFK := hFK.put hr_92 h_112 3 (by decide) rfl
                  have hKP := hKP.upd hWF x_113 Tu (Or.inl (by decide))
                  have hWF := wf_upd hWF h_112 x_113 (by rw [Tu]; exact ⟨v_58, v_59, x_109, v_61, v_62, v_63, v_64, v_65, v_66, v_67, v_68, v_69, y_70, v_71, v_72, v_73, v_74, v_75, y_76, v_77, y_78, v_79, rfl, ⟨by omega, by omega⟩, ⟨by omega, by omega⟩, ⟨by omega, by omega⟩, ⟨by omega, by omega⟩, ⟨by omega, by omega⟩, ⟨by omega, by omega⟩, ⟨by omega, by omega⟩, ⟨by omega, by omega⟩, ⟨by omega, by omega⟩, ⟨by omega, by omega⟩, ⟨by omega, by omega⟩, ⟨by omega, by omega⟩⟩)
                  have tq_114 := mi_row h_112 2 rfl
                  have tq_115 := mi_row h_112 3 rfl
                  have bx_109 := wf_free x_109
                  have tq_116 := mi_row h_112 4 rfl
                  have bv_61 := wf_free v_61
                  refine lv_aload_n G0.1 G0.2.1 dX12_items_80 rfl (lv_at hl 4 rfl) ?_
                  refine lv_iload_n G0.1 G0.2.1 dX12_items_81 rfl (lv_at hl 5 rfl) ?_
                  refine lv_iload G0.1 G0.2.1 dX12_items_82 (lv_at hl 1 rfl) ?_
                  refine lv_iadd G0.1 G0.2.1 dX12_items_84 ?_
                  refine lv_topi (fun x_117 ex_117 => ?_)
                  first | have tx_117 := ti_add ex_117 (by omega) (by omega) | skip
                  refine lv_aload_n G0.1 G0.2.1 dX12_items_85 rfl (lv_at hl 2 rfl) ?_
                  refine lv_iload_n G0.1 G0.2.1 dX12_items_86 rfl (lv_at hl 3 rfl) ?_
                  refine lv_iload G0.1 G0.2.1 dX12_items_87 (lv_at hl 1 rfl) ?_
                  refine py_calli hw (va_runS (As := [.int 1, .int v_56]) (rest := [.ref u, .int x_117, .ref q]) G0 (c_X12_lowest l E G L_j37 f_110 H_111.size 1 v_56 hG hWF) (va_cwS 2 G0.2.2.2.2 g_X12_items_X12_lowest_254 rfl rfl rfl (by decide +kernel) ⟨(Nat.le_of_ble_eq_true rfl), (Nat.le_of_ble_eq_true rfl)⟩) (py_preS hw) rfl rfl hl.1 rfl (lv_room (Nat.le_of_ble_eq_true rfl)) dX12_items_89 ⟨(Nat.le_of_ble_eq_true rfl), (Nat.le_of_ble_eq_true rfl)⟩) (fun r_122 L_118 f_119 H_120 locs hp_121 hw => ?_)
                  obtain ⟨en_123, rfl, rfl⟩ := hp_121
                  have br_122 := wf_free r_122
                  refine lv_iload_n G0.1 G0.2.1 dX12_items_92 rfl (lv_at hl 3 rfl) ?_
                  refine lv_iload G0.1 G0.2.1 dX12_items_93 (lv_at hl 1 rfl) ?_
                  refine py_calli hw (va_runS (As := [.int 1, .int v_56]) (rest := [.int r_122, .ref u, .int x_117, .ref q]) G0 (c_X12_highest l E G L_j37 f_110 H_120.size 1 v_56 hG hWF) (va_cwS 2 G0.2.2.2.2 g_X12_items_X12_highest_257 rfl rfl rfl (by decide +kernel) ⟨(Nat.le_of_ble_eq_true rfl), (Nat.le_of_ble_eq_true rfl)⟩) (py_preS hw) rfl rfl hl.1 rfl (lv_room (Nat.le_of_ble_eq_true rfl)) dX12_items_95 ⟨(Nat.le_of_ble_eq_true rfl), (Nat.le_of_ble_eq_true rfl)⟩) (fun r_128 L_124 f_125 H_126 locs hp_127 hw => ?_)
                  obtain ⟨en_129, en_130, rfl, rfl⟩ := hp_127
                  have en_129 : (1 : Int) = 0 → v_56.toInt = 0 → r_128.toInt ≤ 12 := en_129
                  have en_130 : (1 : Int) = 0 → v_56.toInt = 1 → r_128.toInt ≤ 7 := en_130
                  have br_128 := wf_free r_128
                  refine py_calli hw (va_runV (As := [.int r_122, .int r_128]) (rest := [.int x_117, .ref q]) G0 (c_X12_number l E G L_j37 f_110 H_126.size u r_122 r_128 hG hWF Tu (show 0 ≤ mi f_110 u 3 by omega)) (cwV 2 G0.2.2.2.2 g_X12_items_X12_number_260 rfl rfl rfl (by decide +kernel) ⟨(Nat.le_of_ble_eq_true rfl), (Nat.le_of_ble_eq_true rfl)⟩) (py_preV hw (C := RX12) (T := TX12) (N := 54) rfl h_112) rfl rfl hl.1 rfl (lv_room (Nat.le_of_ble_eq_true rfl)) dX12_items_98 ⟨(Nat.le_of_ble_eq_true rfl), (Nat.le_of_ble_eq_true rfl)⟩) (fun r_135 L_131 f_132 H_133 locs hp_134 hw => ?_)
                  obtain ⟨en_136, en_137, en_138, hWF, kp_139, fk_140⟩ := hp_134
                  have hFK := hFK.trans fk_140 (by decide)
                  have hKP := hKP.trans kp_139 (by decide) (by decide)
                  obtain ⟨v_141, v_142, hr_143⟩ := fk_3_4 hWF Tu fk_140 h_112
                  have tq_144 := mi_row hr_143 2 rfl
                  have tq_145 := mi_row hr_143 3 rfl
                  have bv_141 := wf_free v_141
                  have tq_146 := mi_row hr_143 4 rfl
                  have bv_142 := wf_free v_142
                  have br_135 := wf_free r_135
                  obtain ⟨g_147, ha_148, hi_149⟩ := wf_arr (n := 32) (lo := (-2147483648)) (hi := 2147483647) hWF Tq (by decide) (fun _ => rfl)
                  have rg_150 : vp_in x_117 32 := ti_in (by omega) (by omega)
                  refine py_iast G0 hw ha_148 rg_150 dX12_items_101 (fun f_151 H_152 locs h_153 x_154 hw => ?_)
                  have hFK := hFK.same ((x_154 _ (hWF _ (by rw [Tu]; decide)).1 (wf_ne Tu Tq (by decide))).2)
                  have hKP := hKP.upd hWF x_154 Tq (Or.inl (by decide))
                  have hi_155 := wf_inu (k := (x_117 : Int32).toNatClampNeg) (x := r_135) hi_149 (wf_free r_135).1 (wf_free r_135).2
                  have hWF := wf_upd hWF h_153 x_154 (by rw [Tq]; exact ⟨_, rfl, hi_155⟩)
                  have hr_143 := hr_143.ext x_154 (py_ne_arr hr_143 ha_148)
                  have tq_156 := mi_row hr_143 2 rfl
                  have tq_157 := mi_row hr_143 3 rfl
                  have bv_141 := wf_free v_141
                  have tq_158 := mi_row hr_143 4 rfl
                  have bv_142 := wf_free v_142
                  refine lv_aload_n G0.1 G0.2.1 dX12_items_102 rfl (lv_at hl 2 rfl) ?_
                  refine py_get (C := RX12) (T := TX12) (N := 54) (k := 4) (v := .int v_142) G0 hw in_X12_items_X12 rfl hr_143 (by decide) (by decide +kernel) rfl dX12_items_103 ?_
                  refine lv_iconst (v := (-1)) G0.1 G0.2.1 dX12_items_106 (by decide) ?_
                  refine lv_icmp_ne (tgt := 118) G0.1 G0.2.1 dX12_items_107 (by decide) (fun c_159 => ?_) (fun c_159 => ?_)
                  · skip
                    have tc_159 := ti_ne c_159
                    clear en_138
                    refine lv_iconst (v := (-1)) G0.1 G0.2.1 dX12_items_118 (by decide) ?_
                    refine lv_istore (lv' := [(5, .int (-1)), (4, .int x_108), (0, .ref u), (1, .int 1), (2, .ref q), (3, .int b)]) G0.1 G0.2.1 dX12_items_119 hl (by decide) rfl (fun ls hl => ?_)
                    refine lv_goto (tgt := 37) G0.1 G0.2.1 dX12_items_121 (by decide) ?_
                    exact ih_37 ((mi f u 2 - mi f_151 u 3).toNat) (by omega) (-1) x_108 L_131 f_151 _ _ ls rfl ⟨by omega, by omega⟩ hWF hKP hFK (by first | omega | (intros; omega)) (by first | omega | (intros; omega)) (by first | omega | (intros; omega)) hw (lv_sub hl [0, 1, 2, 3, 4, 5] rfl)
                  · skip
                    have tc_159 := ti_eq c_159
                    replace en_138 := en_138 (by omega)
                    refine lv_aload_n G0.1 G0.2.1 dX12_items_110 rfl (lv_at hl 2 rfl) ?_
                    refine lv_iload_n G0.1 G0.2.1 dX12_items_111 rfl (lv_at hl 3 rfl) ?_
                    refine py_calli hw (va_runV (As := [.int 1]) (rest := []) G0 (c_X12_itemNow l E G L_131 f_151 H_152.size u 1 hG hWF Tu ⟨by omega, by omega⟩ (show 0 ≤ mi f_151 u 3 by omega)) (cwV 1 G0.2.2.2.2 g_X12_items_X12_itemNow_246 rfl rfl rfl (by decide +kernel) ⟨(Nat.le_of_ble_eq_true rfl), (Nat.le_of_ble_eq_true rfl)⟩) (py_preV hw (C := RX12) (T := TX12) (N := 54) rfl hr_143) rfl rfl hl.1 rfl (lv_room (Nat.le_of_ble_eq_true rfl)) dX12_items_112 ⟨(Nat.le_of_ble_eq_true rfl), (Nat.le_of_ble_eq_true rfl)⟩) (fun r_164 L_160 f_161 H_162 locs hp_163 hw => ?_)
                    obtain ⟨b_167, en_165, en_166, hWF, kp_168, fk_169⟩ := hp_163
                    have hFK := hFK.trans fk_169 (by decide)
                    have hKP := hKP.trans kp_168 (by decide) (by decide)
                    obtain ⟨v_170, hr_171⟩ := fk_3 hWF Tu fk_169 hr_143
                    have tq_172 := mi_row hr_171 2 rfl
                    have tq_173 := mi_row hr_171 3 rfl
                    have bv_170 := wf_free v_170
                    have tq_174 := mi_row hr_171 4 rfl
                    have bv_142 := wf_free v_142
                    have h_153 := kp_at kp_168 hWF Tq (by decide) (by decide) (by decide) h_153
                    refine lv_goto (tgt := 119) G0.1 G0.2.1 dX12_items_115 (by decide) ?_
                    refine lv_istore (lv' := [(5, .int r_164), (4, .int x_108), (0, .ref u), (1, .int 1), (2, .ref q), (3, .int b)]) G0.1 G0.2.1 dX12_items_119 hl (by decide) rfl (fun ls hl => ?_)
                    refine lv_goto (tgt := 37) G0.1 G0.2.1 dX12_items_121 (by decide) ?_
                    exact ih_37 ((mi f u 2 - mi f_161 u 3).toNat) (by omega) r_164 x_108 L_160 f_161 _ _ ls rfl ⟨by omega, by omega⟩ hWF hKP hFK (by first | omega | (intros; omega)) (by first | omega | (intros; omega)) (by first | omega | (intros; omega)) hw (lv_sub hl [0, 1, 2, 3, 4, 5] rfl)
        exact lo_37 _ r_45 0 L_41 f_42 _ _ ls rfl ⟨by omega, by omega⟩ hWF hKP hFK (by first | omega | (intros; omega)) (by first | omega | (intros; omega)) (by first | omega | (intros; omega)) hw (lv_sub hl [0, 1, 2, 3, 4, 5] rfl)
      · skip
        have tc_2 := ti_nle c_2
        refine lv_aload_n G0.1 G0.2.1 dX12_items_9 rfl (lv_at hl 3 rfl) ?_
        refine lv_iload_n G0.1 G0.2.1 dX12_items_10 rfl (lv_at hl 4 rfl) ?_
        refine lv_iload G0.1 G0.2.1 dX12_items_11 (lv_at hl 0 rfl) ?_
        refine lv_iadd G0.1 G0.2.1 dX12_items_13 ?_
        refine lv_topi (fun x_175 ex_175 => ?_)
        first | have tx_175 := ti_add ex_175 (by omega) (by omega) | skip
        refine lv_iload_n G0.1 G0.2.1 dX12_items_14 rfl (lv_at hl 2 rfl) ?_
        refine lv_iload G0.1 G0.2.1 dX12_items_15 (lv_at hl 0 rfl) ?_
        refine py_calli hw (va_runS (As := [.int 1, .int v_1]) (rest := [.int x_175, .ref q]) G0 (c_X12_usual l E G L_j3 f_j3 H_j3.size 1 v_1 hG hWF) (va_cwS 2 G0.2.2.2.2 g_X12_items_X12_usual_242 rfl rfl rfl (by decide +kernel) ⟨(Nat.le_of_ble_eq_true rfl), (Nat.le_of_ble_eq_true rfl)⟩) (py_preS hw) rfl rfl hl.1 rfl (lv_room (Nat.le_of_ble_eq_true rfl)) dX12_items_17 ⟨(Nat.le_of_ble_eq_true rfl), (Nat.le_of_ble_eq_true rfl)⟩) (fun r_180 L_176 f_177 H_178 locs hp_179 hw => ?_)
        obtain ⟨en_181, en_182, rfl, rfl⟩ := hp_179
        have en_181 : (1 : Int) = 0 → v_1.toInt = 0 → r_180.toInt = 4 := en_181
        have en_182 : (1 : Int) = 0 → v_1.toInt = 1 → r_180.toInt = 0 := en_182
        have br_180 := wf_free r_180
        obtain ⟨g_183, ha_184, hi_185⟩ := wf_arr (n := 32) (lo := (-2147483648)) (hi := 2147483647) hWF Tq (by decide) (fun _ => rfl)
        have rg_186 : vp_in x_175 32 := ti_in (by omega) (by omega)
        refine py_iast G0 hw ha_184 rg_186 dX12_items_20 (fun f_187 H_188 locs h_189 x_190 hw => ?_)
        have hFK := hFK.same ((x_190 _ (hWF _ (by rw [Tu]; decide)).1 (wf_ne Tu Tq (by decide))).2)
        have hKP := hKP.upd hWF x_190 Tq (Or.inl (by decide))
        have hi_191 := wf_inu (k := (x_175 : Int32).toNatClampNeg) (x := r_180) hi_185 (wf_free r_180).1 (wf_free r_180).2
        have hWF := wf_upd hWF h_189 x_190 (by rw [Tq]; exact ⟨_, rfl, hi_191⟩)
        obtain ⟨x_192, ex_192⟩ : ∃ y : Int32, y = v_1 + 1 := ⟨_, rfl⟩
        first | have tx_192 := ti_add ex_192 (by omega) (by omega) | skip
        refine lv_iinc (v := x_192) (lv' := [(4, .int x_192), (0, .ref u), (1, .int 1), (2, .ref q), (3, .int b)]) G0.1 G0.2.1 dX12_items_21 hl (k := 0) rfl (show _ + (1 : Int32) = _ from ex_192.symm) (by decide) rfl (fun ls hl => ?_)
        refine lv_goto (tgt := 3) G0.1 G0.2.1 dX12_items_24 (by decide) ?_
        exact ih_3 ((2147483647 - x_192.toInt).toNat) (by omega) x_192 L_j3 f_187 _ _ ls rfl ⟨by omega, by omega⟩ hWF hKP hFK hw (lv_sub hl [0, 1, 2, 3, 4] rfl)
  exact lo_3 _ 0 L f _ _ ls rfl ⟨by omega, by omega⟩ hWF hKP hFK hw (lv_sub hl [0, 1, 2, 3, 4] rfl)

set_option maxHeartbeats 4000000 in
set_option maxRecDepth 100000 in
theorem c_X12_items51 (l : Launch) (E : py_E) (G : wf_G) (L : List Nat) (f : py_F) (sz : Nat) (u : Nat) (q : Nat) (b : Int32) (hG : GT G) (hWF : WF E G L f) (Tu : G.1 u = 13) (Tq : G.1 q = 51) (Bb : (0 ≤ b.toInt ∧ b.toInt ≤ 36)) (hp0 : 0 ≤ mi f u 3 ∧ mi f u 4 = -1) : Met l yX12_items w_X12_items ({ frames := 3, cells := 0, slots := 0, locals := 64 }) (py_Pc E [.ref u, .int 0, .ref q, .int b] L f sz) (py_Qv E L f sz (fun L1 f1 => (mi f u 3 ≤ mi f1 u 3) ∧ (mi f1 u 4 = -1 → IT2 f1 q b.toInt 4) ∧ (PFX f f1 q b.toInt) ∧ WF E G L1 f1 ∧ KP G [51, 13] false f f1 ∧ FK [3, 4] f f1 u)) 0 0 (va_A (va_pl L f) sz) := by
  refine Met.ofW (cc := cX12_items) (maxL := 6) (ret := none) (by decide) rfl ?_
  intro p e s m args below meth c s₁ B hml hv
  obtain ⟨rfl, rfl, hw⟩ := py_start hv
  have G0 : CallFix p m c cX12_items 6 s _ w_X12_items RX12 := ⟨B.exec, B.bytes, hml, findClass_of_methodNamed B.named, atoms_spec (ws := w_X12_items) B.pre⟩
  have hr := B.returns
  have hlk := B.notSynchronized
  have kcm1 : (-1 : Int32).toInt = -1 := rfl
  have kc0 : (0 : Int32).toInt = 0 := rfl
  have kc1 : (1 : Int32).toInt = 1 := rfl
  have kc4 : (4 : Int32).toInt = 4 := rfl
  have hl := lv_entry ([.ref u, .int 0, .ref q, .int b]) (n := 6) (Nat.le_of_ble_eq_true rfl)
  rw [lg_entry_eq]
  generalize (lg_sl ([.ref u, .int 0, .ref q, .int b]) ++ List.replicate (6 - (lg_sl ([.ref u, .int 0, .ref q, .int b])).length) Slot.unset).toArray = ls at hl ⊢
  have hl : lv_has ls 6 [(0, .ref u), (1, .int 0), (2, .ref q), (3, .int b)] := hl
  have hFK : FK [3, 4] f f u := FK.refl
  have hKP : KP G [51, 13] false f f := KP.refl
  refine lv_iconst (v := 0) G0.1 G0.2.1 dX12_items_0 (by decide) ?_
  refine lv_istore (lv' := [(4, .int 0), (0, .ref u), (1, .int 0), (2, .ref q), (3, .int b)]) G0.1 G0.2.1 dX12_items_1 hl (by decide) rfl (fun ls hl => ?_)
  have lo_3 : ∀ n_3 : Nat, ∀ (v_1 : Int32) (L_j3 : List Nat) (f_j3 : py_F) (H_j3 : Heap) (locs : List Loc) (ls : Array Slot), (2147483647 - v_1.toInt).toNat = n_3 → (0 ≤ v_1.toInt ∧ v_1.toInt ≤ 4) → WF E G L_j3 f_j3 → KP G [51, 13] false f f_j3 → FK [3, 4] f f_j3 u → (IT2 f_j3 q b.toInt v_1.toInt) → (PFX f f_j3 q b.toInt) → py_W E (va_A (va_pl L f) s.heap.size) s L_j3 f_j3 H_j3 locs → lv_has ls 6 [(4, .int v_1), (0, .ref u), (1, .int 0), (2, .ref q), (3, .int b)] → W p l e (headSpec w_X12_items ({ frames := 3, cells := 0, slots := 0, locals := 64 })).room s m ([.ref u, .int 0, .ref q, .int b] : List Value).toArray below meth c H_j3 locs 0 0 (MQ below (py_Qv E L f s.heap.size (fun L1 f1 => (mi f u 3 ≤ mi f1 u 3) ∧ (mi f1 u 4 = -1 → IT2 f1 q b.toInt 4) ∧ (PFX f f1 q b.toInt) ∧ WF E G L1 f1 ∧ KP G [51, 13] false f f1 ∧ FK [3, 4] f f1 u)) ([.ref u, .int 0, .ref q, .int b] : List Value).toArray s 0 0 (va_A (va_pl L f) s.heap.size)) (F0 m 3 ls []) := by
    intro n_3
    induction n_3 using Nat.strongRecOn with
    | _ n_3 ih_3 =>
      intro v_1 L_j3 f_j3 H_j3 locs ls hn_3 bv_1 hWF hKP hFK iv0 iv1 hw hl
      refine lv_iload G0.1 G0.2.1 dX12_items_3 (lv_at hl 0 rfl) ?_
      refine lv_iconst (v := 4) G0.1 G0.2.1 dX12_items_5 (by decide) ?_
      refine lv_icmp_ge (tgt := 27) G0.1 G0.2.1 dX12_items_6 (by decide) (fun c_2 => ?_) (fun c_2 => ?_)
      · skip
        have tc_2 := ti_le c_2
        have hIT2 := iv0.cast (n1 := 4) (by omega)
        have hPF := iv1
        refine lv_iconst (v := 0) G0.1 G0.2.1 dX12_items_27 (by decide) ?_
        refine lv_istore (lv' := [(4, .int 0), (0, .ref u), (1, .int 0), (2, .ref q), (3, .int b)]) G0.1 G0.2.1 dX12_items_28 hl (by decide) rfl (fun ls hl => ?_)
        refine lv_aload_n G0.1 G0.2.1 dX12_items_30 rfl (lv_at hl 1 rfl) ?_
        refine lv_iload_n G0.1 G0.2.1 dX12_items_31 rfl (lv_at hl 2 rfl) ?_
        obtain ⟨v_3, v_4, v_5, v_6, v_7, v_8, v_9, v_10, v_11, v_12, v_13, v_14, y_15, v_16, v_17, v_18, v_19, v_20, y_21, v_22, y_23, v_24, hr_37, b_25, b_26, b_27, b_28, b_29, b_30, b_31, b_32, b_33, b_34, b_35, b_36⟩ := wg_12 hWF Tu
        have tq_38 := mi_row hr_37 2 rfl
        have tq_39 := mi_row hr_37 3 rfl
        have bv_5 := wf_free v_5
        have tq_40 := mi_row hr_37 4 rfl
        have bv_6 := wf_free v_6
        refine py_calli hw (va_runV (As := [.int 0]) (rest := []) G0 (c_X12_itemNow l E G L_j3 f_j3 H_j3.size u 0 hG hWF Tu ⟨by omega, by omega⟩ (show 0 ≤ mi f_j3 u 3 by omega)) (cwV 1 G0.2.2.2.2 g_X12_items_X12_itemNow_246 rfl rfl rfl (by decide +kernel) ⟨(Nat.le_of_ble_eq_true rfl), (Nat.le_of_ble_eq_true rfl)⟩) (py_preV hw (C := RX12) (T := TX12) (N := 54) rfl hr_37) rfl rfl hl.1 rfl (lv_room (Nat.le_of_ble_eq_true rfl)) dX12_items_32 ⟨(Nat.le_of_ble_eq_true rfl), (Nat.le_of_ble_eq_true rfl)⟩) (fun r_45 L_41 f_42 H_43 locs hp_44 hw => ?_)
        obtain ⟨b_48, en_46, en_47, hWF, kp_49, fk_50⟩ := hp_44
        have hPF := hPF.same (kp_f kp_49 Tq (by decide) (by decide) (fun _ => by decide))
        have hIT2 := hIT2.same (kp_f kp_49 Tq (by decide) (by decide) (fun _ => by decide))
        have hFK := hFK.trans fk_50 (by decide)
        have hKP := hKP.trans kp_49 (by decide) (by decide)
        obtain ⟨v_51, hr_52⟩ := fk_3 hWF Tu fk_50 hr_37
        have tq_53 := mi_row hr_52 2 rfl
        have tq_54 := mi_row hr_52 3 rfl
        have bv_51 := wf_free v_51
        have tq_55 := mi_row hr_52 4 rfl
        have bv_6 := wf_free v_6
        refine lv_istore (lv' := [(5, .int r_45), (4, .int 0), (0, .ref u), (1, .int 0), (2, .ref q), (3, .int b)]) G0.1 G0.2.1 dX12_items_35 hl (by decide) rfl (fun ls hl => ?_)
        have lo_37 : ∀ n_37 : Nat, ∀ (v_56 : Int32) (v_57 : Int32) (L_j37 : List Nat) (f_j37 : py_F) (H_j37 : Heap) (locs : List Loc) (ls : Array Slot), (mi f u 2 - mi f_j37 u 3).toNat = n_37 → ((-1) ≤ v_56.toInt ∧ v_56.toInt ≤ 3) → WF E G L_j37 f_j37 → KP G [51, 13] false f f_j37 → FK [3, 4] f f_j37 u → (mi f u 3 ≤ mi f_j37 u 3) → (v_56.toInt ≠ -1 → mi f_j37 u 3 < mi f u 2) → (mi f_j37 u 2 = mi f u 2) → (mi f_j37 u 4 = -1 → IT2 f_j37 q b.toInt 4) → (PFX f f_j37 q b.toInt) → py_W E (va_A (va_pl L f) s.heap.size) s L_j37 f_j37 H_j37 locs → lv_has ls 6 [(5, .int v_56), (4, .int v_57), (0, .ref u), (1, .int 0), (2, .ref q), (3, .int b)] → W p l e (headSpec w_X12_items ({ frames := 3, cells := 0, slots := 0, locals := 64 })).room s m ([.ref u, .int 0, .ref q, .int b] : List Value).toArray below meth c H_j37 locs 0 0 (MQ below (py_Qv E L f s.heap.size (fun L1 f1 => (mi f u 3 ≤ mi f1 u 3) ∧ (mi f1 u 4 = -1 → IT2 f1 q b.toInt 4) ∧ (PFX f f1 q b.toInt) ∧ WF E G L1 f1 ∧ KP G [51, 13] false f f1 ∧ FK [3, 4] f f1 u)) ([.ref u, .int 0, .ref q, .int b] : List Value).toArray s 0 0 (va_A (va_pl L f) s.heap.size)) (F0 m 37 ls []) := by
          intro n_37
          induction n_37 using Nat.strongRecOn with
          | _ n_37 ih_37 =>
            intro v_56 v_57 L_j37 f_j37 H_j37 locs ls hn_37 bv_56 hWF hKP hFK iv0 iv1 iv2 iv3 iv4 hw hl
            refine lv_aload_n G0.1 G0.2.1 dX12_items_37 rfl (lv_at hl 2 rfl) ?_
            obtain ⟨v_58, v_59, v_60, v_61, v_62, v_63, v_64, v_65, v_66, v_67, v_68, v_69, y_70, v_71, v_72, v_73, v_74, v_75, y_76, v_77, y_78, v_79, hr_92, b_80, b_81, b_82, b_83, b_84, b_85, b_86, b_87, b_88, b_89, b_90, b_91⟩ := wg_12 hWF Tu
            have tq_93 := mi_row hr_92 2 rfl
            have tq_94 := mi_row hr_92 3 rfl
            have bv_60 := wf_free v_60
            have tq_95 := mi_row hr_92 4 rfl
            have bv_61 := wf_free v_61
            refine py_get (C := RX12) (T := TX12) (N := 54) (k := 4) (v := .int v_61) G0 hw in_X12_items_X12 rfl hr_92 (by decide) (by decide +kernel) rfl dX12_items_38 ?_
            refine lv_iconst (v := (-1)) G0.1 G0.2.1 dX12_items_41 (by decide) ?_
            refine lv_icmp_ne (tgt := 124) G0.1 G0.2.1 dX12_items_42 (by decide) (fun c_96 => ?_) (fun c_96 => ?_)
            · skip
              have tc_96 := ti_ne c_96
              exact py_vret G0 hr hlk hw ⟨(by first | omega | (intro q; omega)), iv3, iv4, hWF, hKP, hFK⟩ dX12_items_124
            · skip
              have tc_96 := ti_eq c_96
              refine lv_iload G0.1 G0.2.1 dX12_items_45 (lv_at hl 0 rfl) ?_
              refine lv_iconst (v := (-1)) G0.1 G0.2.1 dX12_items_47 (by decide) ?_
              refine lv_icmp_eq (tgt := 124) G0.1 G0.2.1 dX12_items_48 (by decide) (fun c_97 => ?_) (fun c_97 => ?_)
              · skip
                have tc_97 := ti_eq c_97
                exact py_vret G0 hr hlk hw ⟨(by first | omega | (intro q; omega)), iv3, iv4, hWF, hKP, hFK⟩ dX12_items_124
              · skip
                have tc_97 := ti_ne c_97
                refine lv_iload G0.1 G0.2.1 dX12_items_51 (lv_at hl 1 rfl) ?_
                refine lv_iload G0.1 G0.2.1 dX12_items_53 (lv_at hl 0 rfl) ?_
                refine py_calli hw (va_runS (As := [.int v_57, .int v_56]) (rest := []) G0 (c_X12_has l E G L_j37 f_j37 H_j37.size v_57 v_56 hG hWF) (va_cwS 2 G0.2.2.2.2 g_X12_items_X12_has_250 rfl rfl rfl (by decide +kernel) ⟨(Nat.le_of_ble_eq_true rfl), (Nat.le_of_ble_eq_true rfl)⟩) (py_preS hw) rfl rfl hl.1 rfl (lv_room (Nat.le_of_ble_eq_true rfl)) dX12_items_55 ⟨(Nat.le_of_ble_eq_true rfl), (Nat.le_of_ble_eq_true rfl)⟩) (fun r_102 L_98 f_99 H_100 locs hp_101 hw => ?_)
                obtain ⟨b_105, en_103, en_104, rfl, rfl⟩ := hp_101
                refine lv_if_ne (tgt := 124) G0.1 G0.2.1 dX12_items_58 (by decide) (fun c_106 => ?_) (fun c_106 => ?_)
                · skip
                  have tc_106 := ti_ne c_106
                  exact py_vret G0 hr hlk hw ⟨(by first | omega | (intro q; omega)), iv3, iv4, hWF, hKP, hFK⟩ dX12_items_124
                · skip
                  have tc_106 := ti_eq c_106
                  refine lv_iload G0.1 G0.2.1 dX12_items_61 (lv_at hl 1 rfl) ?_
                  refine lv_iconst (v := 1) G0.1 G0.2.1 dX12_items_63 (by decide) ?_
                  refine lv_iload G0.1 G0.2.1 dX12_items_64 (lv_at hl 0 rfl) ?_
                  refine lv_ishl G0.1 G0.2.1 dX12_items_66 ?_
                  refine lv_topi (fun x_107 ex_107 => ?_)
                  first | have bx_107 : 0 ≤ x_107.toInt ∧ x_107.toInt ≤ 512 := (by rcases ti_ten v_56 (by omega) (by omega) with h | h | h | h | h | h | h | h | h | h <;> (rw [ex_107, h]; decide +kernel)) | skip
                  refine lv_ior G0.1 G0.2.1 dX12_items_67 ?_
                  refine lv_topi (fun x_108 ex_108 => ?_)
                  first | have bx_108 := ti_or ex_108 ⟨by omega, by omega⟩ ⟨by omega, by omega⟩ | skip
                  refine lv_istore (lv' := [(4, .int x_108), (5, .int v_56), (0, .ref u), (1, .int 0), (2, .ref q), (3, .int b)]) G0.1 G0.2.1 dX12_items_68 hl (by decide) rfl (fun ls hl => ?_)
                  have hIT2 := iv3 (by omega)
                  have hPF := iv4
                  refine lv_aload_n G0.1 G0.2.1 dX12_items_70 rfl (lv_at hl 2 rfl) ?_
                  refine lv_dup G0.1 G0.2.1 dX12_items_71 rfl ?_
                  refine py_get (C := RX12) (T := TX12) (N := 54) (k := 3) (v := .int v_60) G0 hw in_X12_items_X12 rfl hr_92 (by decide) (by decide +kernel) rfl dX12_items_72 ?_
                  refine lv_iconst (v := 1) G0.1 G0.2.1 dX12_items_75 (by decide) ?_
                  refine lv_iadd G0.1 G0.2.1 dX12_items_76 ?_
                  refine lv_topi (fun x_109 ex_109 => ?_)
                  first | have tx_109 := ti_add ex_109 (by omega) (by omega) | skip
                  refine py_put (C := RX12) (T := TX12) (N := 54) (k := 3) (v := .int x_109) (fs' := [.int v_58, .ref (G.2 u 1), .int v_59, .int x_109, .int v_61, .int v_62, .ref (G.2 u 6), .ref (G.2 u 7), .ref (G.2 u 8), .ref (G.2 u 9), .ref (G.2 u 10), .ref (G.2 u 11), .ref (G.2 u 12), .int v_63, .int v_64, .ref (G.2 u 15), .ref (G.2 u 16), .ref (G.2 u 17), .ref (G.2 u 18), .int v_65, .int v_66, .ref (G.2 u 21), .ref (G.2 u 22), .ref (G.2 u 23), .int v_67, .int v_68, .ref (G.2 u 26), .ref (G.2 u 27), .ref (G.2 u 28), .int v_69, .long y_70, .int v_71, .int v_72, .int v_73, .int v_74, .ref (G.2 u 35), .ref (G.2 u 36), .ref (G.2 u 37), .ref (G.2 u 38), .ref (G.2 u 39), .ref (G.2 u 40), .ref (G.2 u 41), .ref (G.2 u 42), .int v_75, .ref (G.2 u 44), .ref (G.2 u 45), .ref (G.2 u 46), .ref (G.2 u 47), .long y_76, .ref (G.2 u 49), .ref (G.2 u 50), .int v_77, .long y_78, .int v_79]) (ty0 := tyX12) G0 hw tyX12_ok nmX12 in_X12_items_X12 rfl hr_92 (by decide) (by decide +kernel) rfl rfl rfl rfl (Nat.le_of_ble_eq_true rfl) rfl dX12_items_77 (fun f_110 H_111 locs h_112 x_113 hw => ?_)
                  have hPF := hPF.same ((x_113 _ (hWF _ (by rw [Tq]; decide)).1 (wf_ne Tq Tu (by decide))).2)
                  have hIT2 := hIT2.same ((x_113 _ (hWF _ (by rw [Tq]; decide)).1 (wf_ne Tq Tu (by decide))).2)
                  have hFK := hFK.put hr_92 h_112 3 (by decide) rfl
                  have hKP := hKP.upd hWF x_113 Tu (Or.inl (by decide))
                  have hWF := wf_upd hWF h_112 x_113 (by rw [Tu]; exact ⟨v_58, v_59, x_109, v_61, v_62, v_63, v_64, v_65, v_66, v_67, v_68, v_69, y_70, v_71, v_72, v_73, v_74, v_75, y_76, v_77, y_78, v_79, rfl, ⟨by omega, by omega⟩, ⟨by omega, by omega⟩, ⟨by omega, by omega⟩, ⟨by omega, by omega⟩, ⟨by omega, by omega⟩, ⟨by omega, by omega⟩, ⟨by omega, by omega⟩, ⟨by omega, by omega⟩, ⟨by omega, by omega⟩, ⟨by omega, by omega⟩, ⟨by omega, by omega⟩, ⟨by omega, by omega⟩⟩)
                  have tq_114 := mi_row h_112 2 rfl
                  have tq_115 := mi_row h_112 3 rfl
                  have bx_109 := wf_free x_109
                  have tq_116 := mi_row h_112 4 rfl
                  have bv_61 := wf_free v_61
                  refine lv_aload_n G0.1 G0.2.1 dX12_items_80 rfl (lv_at hl 4 rfl) ?_
                  refine lv_iload_n G0.1 G0.2.1 dX12_items_81 rfl (lv_at hl 5 rfl) ?_
                  refine lv_iload G0.1 G0.2.1 dX12_items_82 (lv_at hl 1 rfl) ?_
                  refine lv_iadd G0.1 G0.2.1 dX12_items_84 ?_
                  refine lv_topi (fun x_117 ex_117 => ?_)
                  first | have tx_117 := ti_add ex_117 (by omega) (by omega) | skip
                  refine lv_aload_n G0.1 G0.2.1 dX12_items_85 rfl (lv_at hl 2 rfl) ?_
                  refine lv_iload_n G0.1 G0.2.1 dX12_items_86 rfl (lv_at hl 3 rfl) ?_
                  refine lv_iload G0.1 G0.2.1 dX12_items_87 (lv_at hl 1 rfl) ?_
                  refine py_calli hw (va_runS (As := [.int 0, .int v_56]) (rest := [.ref u, .int x_117, .ref q]) G0 (c_X12_lowest l E G L_j37 f_110 H_111.size 0 v_56 hG hWF) (va_cwS 2 G0.2.2.2.2 g_X12_items_X12_lowest_254 rfl rfl rfl (by decide +kernel) ⟨(Nat.le_of_ble_eq_true rfl), (Nat.le_of_ble_eq_true rfl)⟩) (py_preS hw) rfl rfl hl.1 rfl (lv_room (Nat.le_of_ble_eq_true rfl)) dX12_items_89 ⟨(Nat.le_of_ble_eq_true rfl), (Nat.le_of_ble_eq_true rfl)⟩) (fun r_122 L_118 f_119 H_120 locs hp_121 hw => ?_)
                  obtain ⟨en_123, rfl, rfl⟩ := hp_121
                  have br_122 := wf_free r_122
                  refine lv_iload_n G0.1 G0.2.1 dX12_items_92 rfl (lv_at hl 3 rfl) ?_
                  refine lv_iload G0.1 G0.2.1 dX12_items_93 (lv_at hl 1 rfl) ?_
                  refine py_calli hw (va_runS (As := [.int 0, .int v_56]) (rest := [.int r_122, .ref u, .int x_117, .ref q]) G0 (c_X12_highest l E G L_j37 f_110 H_120.size 0 v_56 hG hWF) (va_cwS 2 G0.2.2.2.2 g_X12_items_X12_highest_257 rfl rfl rfl (by decide +kernel) ⟨(Nat.le_of_ble_eq_true rfl), (Nat.le_of_ble_eq_true rfl)⟩) (py_preS hw) rfl rfl hl.1 rfl (lv_room (Nat.le_of_ble_eq_true rfl)) dX12_items_95 ⟨(Nat.le_of_ble_eq_true rfl), (Nat.le_of_ble_eq_true rfl)⟩) (fun r_128 L_124 f_125 H_126 locs hp_127 hw => ?_)
                  obtain ⟨en_129, en_130, rfl, rfl⟩ := hp_127
                  have en_129 : (0 : Int) = 0 → v_56.toInt = 0 → r_128.toInt ≤ 12 := en_129
                  have en_130 : (0 : Int) = 0 → v_56.toInt = 1 → r_128.toInt ≤ 7 := en_130
                  have br_128 := wf_free r_128
                  refine py_calli hw (va_runV (As := [.int r_122, .int r_128]) (rest := [.int x_117, .ref q]) G0 (c_X12_number l E G L_j37 f_110 H_126.size u r_122 r_128 hG hWF Tu (show 0 ≤ mi f_110 u 3 by omega)) (cwV 2 G0.2.2.2.2 g_X12_items_X12_number_260 rfl rfl rfl (by decide +kernel) ⟨(Nat.le_of_ble_eq_true rfl), (Nat.le_of_ble_eq_true rfl)⟩) (py_preV hw (C := RX12) (T := TX12) (N := 54) rfl h_112) rfl rfl hl.1 rfl (lv_room (Nat.le_of_ble_eq_true rfl)) dX12_items_98 ⟨(Nat.le_of_ble_eq_true rfl), (Nat.le_of_ble_eq_true rfl)⟩) (fun r_135 L_131 f_132 H_133 locs hp_134 hw => ?_)
                  obtain ⟨en_136, en_137, en_138, hWF, kp_139, fk_140⟩ := hp_134
                  have hPF := hPF.same (kp_f kp_139 Tq (by decide) (by decide) (fun _ => by decide))
                  have hIT2 := hIT2.same (kp_f kp_139 Tq (by decide) (by decide) (fun _ => by decide))
                  have hFK := hFK.trans fk_140 (by decide)
                  have hKP := hKP.trans kp_139 (by decide) (by decide)
                  obtain ⟨v_141, v_142, hr_143⟩ := fk_3_4 hWF Tu fk_140 h_112
                  have tq_144 := mi_row hr_143 2 rfl
                  have tq_145 := mi_row hr_143 3 rfl
                  have bv_141 := wf_free v_141
                  have tq_146 := mi_row hr_143 4 rfl
                  have bv_142 := wf_free v_142
                  have br_135 := wf_free r_135
                  obtain ⟨g_147, ha_148, hi_149⟩ := wf_arr (n := 40) (lo := (-2147483648)) (hi := 2147483647) hWF Tq (by decide) (fun _ => rfl)
                  have rg_150 : vp_in x_117 40 := ti_in (by omega) (by omega)
                  refine py_iast G0 hw ha_148 rg_150 dX12_items_101 (fun f_151 H_152 locs h_153 x_154 hw => ?_)
                  have hkw : KP G [51] false f_132 f_151 := KP.refl.upd hWF x_154 Tq (Or.inl (by decide))
                  have hFK := hFK.same ((x_154 _ (hWF _ (by rw [Tu]; decide)).1 (wf_ne Tu Tq (by decide))).2)
                  have hKP := hKP.upd hWF x_154 Tq (Or.inl (by decide))
                  have hi_155 := wf_inu (k := (x_117 : Int32).toNatClampNeg) (x := r_135) hi_149 (wf_free r_135).1 (wf_free r_135).2
                  have hWF := wf_upd hWF h_153 x_154 (by rw [Tq]; exact ⟨_, rfl, hi_155⟩)
                  have hr_143 := hr_143.ext x_154 (py_ne_arr hr_143 ha_148)
                  have tq_156 := mi_row hr_143 2 rfl
                  have tq_157 := mi_row hr_143 3 rfl
                  have bv_141 := wf_free v_141
                  have tq_158 := mi_row hr_143 4 rfl
                  have bv_142 := wf_free v_142
                  have hz4 := mi_kp (x_154 u (hWF u (by rw [Tu]; decide)).1 (wf_ne Tu Tq (by decide))).2 4
                  have hIT3 : mi f_151 u 4 = -1 → IT2 f_151 q b.toInt 4 := fun hw => hIT2.up (k := v_56.toInt) (q1 := 4) ha_148 h_153 (by omega) (by omega) (by omega) (by omega) (by omega) (by omega)
                  have hPF := hPF.up ha_148 h_153 (by omega) (by omega)
                  refine lv_aload_n G0.1 G0.2.1 dX12_items_102 rfl (lv_at hl 2 rfl) ?_
                  refine py_get (C := RX12) (T := TX12) (N := 54) (k := 4) (v := .int v_142) G0 hw in_X12_items_X12 rfl hr_143 (by decide) (by decide +kernel) rfl dX12_items_103 ?_
                  refine lv_iconst (v := (-1)) G0.1 G0.2.1 dX12_items_106 (by decide) ?_
                  refine lv_icmp_ne (tgt := 118) G0.1 G0.2.1 dX12_items_107 (by decide) (fun c_159 => ?_) (fun c_159 => ?_)
                  · skip
                    have tc_159 := ti_ne c_159
                    clear en_138
                    refine lv_iconst (v := (-1)) G0.1 G0.2.1 dX12_items_118 (by decide) ?_
                    refine lv_istore (lv' := [(5, .int (-1)), (4, .int x_108), (0, .ref u), (1, .int 0), (2, .ref q), (3, .int b)]) G0.1 G0.2.1 dX12_items_119 hl (by decide) rfl (fun ls hl => ?_)
                    refine lv_goto (tgt := 37) G0.1 G0.2.1 dX12_items_121 (by decide) ?_
                    exact ih_37 ((mi f u 2 - mi f_151 u 3).toNat) (by omega) (-1) x_108 L_131 f_151 _ _ ls rfl ⟨by omega, by omega⟩ hWF hKP hFK (by first | omega | (intros; omega)) (by first | omega | (intros; omega)) (by first | omega | (intros; omega)) hIT3 hPF hw (lv_sub hl [0, 1, 2, 3, 4, 5] rfl)
                  · skip
                    have tc_159 := ti_eq c_159
                    replace en_138 := en_138 (by omega)
                    refine lv_aload_n G0.1 G0.2.1 dX12_items_110 rfl (lv_at hl 2 rfl) ?_
                    refine lv_iload_n G0.1 G0.2.1 dX12_items_111 rfl (lv_at hl 3 rfl) ?_
                    refine py_calli hw (va_runV (As := [.int 0]) (rest := []) G0 (c_X12_itemNow l E G L_131 f_151 H_152.size u 0 hG hWF Tu ⟨by omega, by omega⟩ (show 0 ≤ mi f_151 u 3 by omega)) (cwV 1 G0.2.2.2.2 g_X12_items_X12_itemNow_246 rfl rfl rfl (by decide +kernel) ⟨(Nat.le_of_ble_eq_true rfl), (Nat.le_of_ble_eq_true rfl)⟩) (py_preV hw (C := RX12) (T := TX12) (N := 54) rfl hr_143) rfl rfl hl.1 rfl (lv_room (Nat.le_of_ble_eq_true rfl)) dX12_items_112 ⟨(Nat.le_of_ble_eq_true rfl), (Nat.le_of_ble_eq_true rfl)⟩) (fun r_164 L_160 f_161 H_162 locs hp_163 hw => ?_)
                    obtain ⟨b_167, en_165, en_166, hWF, kp_168, fk_169⟩ := hp_163
                    have hPF := hPF.same (kp_f kp_168 Tq (by decide) (by decide) (fun _ => by decide))
                    have hIT3 := fun hw => (hIT3 (by have hz := fk_mi fk_169 4 (by decide) (by decide); omega)).same (kp_f kp_168 Tq (by decide) (by decide) (fun _ => by decide))
                    have hFK := hFK.trans fk_169 (by decide)
                    have hKP := hKP.trans kp_168 (by decide) (by decide)
                    obtain ⟨v_170, hr_171⟩ := fk_3 hWF Tu fk_169 hr_143
                    have tq_172 := mi_row hr_171 2 rfl
                    have tq_173 := mi_row hr_171 3 rfl
                    have bv_170 := wf_free v_170
                    have tq_174 := mi_row hr_171 4 rfl
                    have bv_142 := wf_free v_142
                    have h_153 := kp_at kp_168 hWF Tq (by decide) (by decide) (by decide) h_153
                    refine lv_goto (tgt := 119) G0.1 G0.2.1 dX12_items_115 (by decide) ?_
                    refine lv_istore (lv' := [(5, .int r_164), (4, .int x_108), (0, .ref u), (1, .int 0), (2, .ref q), (3, .int b)]) G0.1 G0.2.1 dX12_items_119 hl (by decide) rfl (fun ls hl => ?_)
                    refine lv_goto (tgt := 37) G0.1 G0.2.1 dX12_items_121 (by decide) ?_
                    exact ih_37 ((mi f u 2 - mi f_161 u 3).toNat) (by omega) r_164 x_108 L_160 f_161 _ _ ls rfl ⟨by omega, by omega⟩ hWF hKP hFK (by first | omega | (intros; omega)) (by first | omega | (intros; omega)) (by first | omega | (intros; omega)) hIT3 hPF hw (lv_sub hl [0, 1, 2, 3, 4, 5] rfl)
        exact lo_37 _ r_45 0 L_41 f_42 _ _ ls rfl ⟨by omega, by omega⟩ hWF hKP hFK (by first | omega | (intros; omega)) (by first | omega | (intros; omega)) (by first | omega | (intros; omega)) (fun _ => hIT2) hPF hw (lv_sub hl [0, 1, 2, 3, 4, 5] rfl)
      · skip
        have tc_2 := ti_nle c_2
        refine lv_aload_n G0.1 G0.2.1 dX12_items_9 rfl (lv_at hl 3 rfl) ?_
        refine lv_iload_n G0.1 G0.2.1 dX12_items_10 rfl (lv_at hl 4 rfl) ?_
        refine lv_iload G0.1 G0.2.1 dX12_items_11 (lv_at hl 0 rfl) ?_
        refine lv_iadd G0.1 G0.2.1 dX12_items_13 ?_
        refine lv_topi (fun x_175 ex_175 => ?_)
        first | have tx_175 := ti_add ex_175 (by omega) (by omega) | skip
        refine lv_iload_n G0.1 G0.2.1 dX12_items_14 rfl (lv_at hl 2 rfl) ?_
        refine lv_iload G0.1 G0.2.1 dX12_items_15 (lv_at hl 0 rfl) ?_
        refine py_calli hw (va_runS (As := [.int 0, .int v_1]) (rest := [.int x_175, .ref q]) G0 (c_X12_usual l E G L_j3 f_j3 H_j3.size 0 v_1 hG hWF) (va_cwS 2 G0.2.2.2.2 g_X12_items_X12_usual_242 rfl rfl rfl (by decide +kernel) ⟨(Nat.le_of_ble_eq_true rfl), (Nat.le_of_ble_eq_true rfl)⟩) (py_preS hw) rfl rfl hl.1 rfl (lv_room (Nat.le_of_ble_eq_true rfl)) dX12_items_17 ⟨(Nat.le_of_ble_eq_true rfl), (Nat.le_of_ble_eq_true rfl)⟩) (fun r_180 L_176 f_177 H_178 locs hp_179 hw => ?_)
        obtain ⟨en_181, en_182, rfl, rfl⟩ := hp_179
        have en_181 : (0 : Int) = 0 → v_1.toInt = 0 → r_180.toInt = 4 := en_181
        have en_182 : (0 : Int) = 0 → v_1.toInt = 1 → r_180.toInt = 0 := en_182
        have br_180 := wf_free r_180
        obtain ⟨g_183, ha_184, hi_185⟩ := wf_arr (n := 40) (lo := (-2147483648)) (hi := 2147483647) hWF Tq (by decide) (fun _ => rfl)
        have rg_186 : vp_in x_175 40 := ti_in (by omega) (by omega)
        refine py_iast G0 hw ha_184 rg_186 dX12_items_20 (fun f_187 H_188 locs h_189 x_190 hw => ?_)
        have hkw : KP G [51] false f_j3 f_187 := KP.refl.upd hWF x_190 Tq (Or.inl (by decide))
        have hFK := hFK.same ((x_190 _ (hWF _ (by rw [Tu]; decide)).1 (wf_ne Tu Tq (by decide))).2)
        have hKP := hKP.upd hWF x_190 Tq (Or.inl (by decide))
        have hi_191 := wf_inu (k := (x_175 : Int32).toNatClampNeg) (x := r_180) hi_185 (wf_free r_180).1 (wf_free r_180).2
        have hWF := wf_upd hWF h_189 x_190 (by rw [Tq]; exact ⟨_, rfl, hi_191⟩)
        have hIT := iv0.up (k := v_1.toInt) (q1 := v_1.toInt + 1) ha_184 h_189 (by omega) (by omega) (by omega) (by omega) (by omega) (by omega)
        have hPF := iv1.up ha_184 h_189 (by omega) (by omega)
        obtain ⟨x_192, ex_192⟩ : ∃ y : Int32, y = v_1 + 1 := ⟨_, rfl⟩
        first | have tx_192 := ti_add ex_192 (by omega) (by omega) | skip
        refine lv_iinc (v := x_192) (lv' := [(4, .int x_192), (0, .ref u), (1, .int 0), (2, .ref q), (3, .int b)]) G0.1 G0.2.1 dX12_items_21 hl (k := 0) rfl (show _ + (1 : Int32) = _ from ex_192.symm) (by decide) rfl (fun ls hl => ?_)
        refine lv_goto (tgt := 3) G0.1 G0.2.1 dX12_items_24 (by decide) ?_
        exact ih_3 ((2147483647 - x_192.toInt).toNat) (by omega) x_192 L_j3 f_187 _ _ ls rfl ⟨by omega, by omega⟩ hWF hKP hFK (hIT.cast (by omega)) hPF hw (lv_sub hl [0, 1, 2, 3, 4] rfl)
  exact lo_3 _ 0 L f _ _ ls rfl ⟨by omega, by omega⟩ hWF hKP hFK (IT2.zero (by omega)) PFX.refl hw (lv_sub hl [0, 1, 2, 3, 4] rfl)

def w_X12_clauseText : List Cond := .code yX12_clauseText cX12_clauseText 3 none :: ([Cond.methodLink RX12 146 yX12_look, Cond.instanceMethod yX12_look, Cond.selects RX12 yX12_look yX12_look, Cond.initialized RX12, Cond.methodLink RX12 143 yX12_bad, Cond.instanceMethod yX12_bad, Cond.selects RX12 yX12_bad yX12_bad, Cond.fieldLink RX12 267 "HeadYearModel" "readFamilies" "I", Cond.fieldLink RX12 127 "HeadYearModel" "at" "I", Cond.fieldLink RX12 43 "HeadYearModel" "readFamily" "[I", Cond.methodLink RX12 270 yX12_items, Cond.instanceMethod yX12_items, Cond.selects RX12 yX12_items yX12_items, Cond.fieldLink RX12 264 "HeadYearModel" "readLevels" "I", Cond.fieldLink RX12 40 "HeadYearModel" "readLevel" "[I"] ++ (u_ws RX12 TX12 54 ++ (w_X12_look ++ (w_X12_bad ++ (w_X12_items ++ ([]))))))
theorem in_X12_clauseText_X12 : ∀ w ∈ u_ws RX12 TX12 54, w ∈ w_X12_clauseText := fun _ h => List.mem_cons_of_mem _ (List.mem_append_right _ (List.mem_append_left _ h))
theorem gg_X12_clauseText_X12_look : GoodIn w_X12_clauseText w_X12_look := goodIn_sub (fun _ h => List.mem_cons_of_mem _ (List.mem_append_right _ (List.mem_append_right _ (List.mem_append_left _ h)))) (by decide +kernel)
theorem gg_X12_clauseText_X12_bad : GoodIn w_X12_clauseText w_X12_bad := goodIn_sub (fun _ h => List.mem_cons_of_mem _ (List.mem_append_right _ (List.mem_append_right _ (List.mem_append_right _ (List.mem_append_left _ h))))) (by decide +kernel)
theorem gg_X12_clauseText_X12_items : GoodIn w_X12_clauseText w_X12_items := goodIn_sub (fun _ h => List.mem_cons_of_mem _ (List.mem_append_right _ (List.mem_append_right _ (List.mem_append_right _ (List.mem_append_right _ (List.mem_append_left _ h)))))) (by decide +kernel)
theorem g_X12_clauseText_X12_bad_143 : GoodIn w_X12_clauseText (wsV RX12 143 RX12 yX12_bad w_X12_bad) := goodIn_app (goodIn_of _ (by decide +kernel)) gg_X12_clauseText_X12_bad
theorem g_X12_clauseText_X12_items_270 : GoodIn w_X12_clauseText (wsV RX12 270 RX12 yX12_items w_X12_items) := goodIn_app (goodIn_of _ (by decide +kernel)) gg_X12_clauseText_X12_items
theorem g_X12_clauseText_X12_look_146 : GoodIn w_X12_clauseText (wsV RX12 146 RX12 yX12_look w_X12_look) := goodIn_app (goodIn_of _ (by decide +kernel)) gg_X12_clauseText_X12_look
set_option maxHeartbeats 4000000 in
set_option maxRecDepth 100000 in
theorem c_X12_clauseText (l : Launch) (E : py_E) (G : wf_G) (L : List Nat) (f : py_F) (sz : Nat) (u : Nat) (hG : GT G) (hWF : WF E G L f) (Tu : G.1 u = 13) (hp0 : 0 ≤ mi f u 3 ∧ mi f u 4 = -1) : Met l yX12_clauseText w_X12_clauseText ({ frames := 4, cells := 0, slots := 0, locals := 89 }) (py_Pc E [.ref u] L f sz) (py_Qv E L f sz (fun L1 f1 => (mi f u 3 ≤ mi f1 u 3) ∧ (RFm f G u (mi f u 20) → mi f1 u 4 = -1 → RFm f1 G u (mi f1 u 20)) ∧ WF E G L1 f1 ∧ KP G [50, 51, 13] false f f1 ∧ FK [3, 4, 19, 20] f f1 u)) 0 0 (va_A (va_pl L f) sz) := by
  refine Met.ofW (cc := cX12_clauseText) (maxL := 3) (ret := none) (by decide) rfl ?_
  intro p e s m args below meth c s₁ B hml hv
  obtain ⟨rfl, rfl, hw⟩ := py_start hv
  have G0 : CallFix p m c cX12_clauseText 3 s _ w_X12_clauseText RX12 := ⟨B.exec, B.bytes, hml, findClass_of_methodNamed B.named, atoms_spec (ws := w_X12_clauseText) B.pre⟩
  have hr := B.returns
  have hlk := B.notSynchronized
  have kcm1 : (-1 : Int32).toInt = -1 := rfl
  have kc0 : (0 : Int32).toInt = 0 := rfl
  have kc1 : (1 : Int32).toInt = 1 := rfl
  have kc4 : (4 : Int32).toInt = 4 := rfl
  have kc8 : (8 : Int32).toInt = 8 := rfl
  have kc10 : (10 : Int32).toInt = 10 := rfl
  have kc107 : (107 : Int32).toInt = 107 := rfl
  have kc108 : (108 : Int32).toInt = 108 := rfl
  have hl := lv_entry ([.ref u]) (n := 3) (Nat.le_of_ble_eq_true rfl)
  rw [lg_entry_eq]
  generalize (lg_sl ([.ref u]) ++ List.replicate (3 - (lg_sl ([.ref u])).length) Slot.unset).toArray = ls at hl ⊢
  have hl : lv_has ls 3 [(0, .ref u)] := hl
  have hFK : FK [3, 4, 19, 20] f f u := FK.refl
  have hKP : KP G [50, 51, 13] false f f := KP.refl
  have h18 : f (G.2 u 18) = f (G.2 u 18) := rfl
  refine lv_aload_n G0.1 G0.2.1 dX12_clauseText_0 rfl (lv_at hl 0 rfl) ?_
  obtain ⟨v_1, v_2, v_3, v_4, v_5, v_6, v_7, v_8, v_9, v_10, v_11, v_12, y_13, v_14, v_15, v_16, v_17, v_18, y_19, v_20, y_21, v_22, hr_35, b_23, b_24, b_25, b_26, b_27, b_28, b_29, b_30, b_31, b_32, b_33, b_34⟩ := wg_12 hWF Tu
  have tq_36 := mi_row hr_35 2 rfl
  have tq_37 := mi_row hr_35 3 rfl
  have bv_3 := wf_free v_3
  have tq_38 := mi_row hr_35 4 rfl
  have bv_4 := wf_free v_4
  have tq_39 := mi_row hr_35 19 rfl
  have tq_40 := mi_row hr_35 20 rfl
  refine py_calli hw (va_runV (As := []) (rest := []) G0 (c_X12_look l E G L f s.heap.size u hG hWF Tu (show 0 ≤ mi f u 3 by omega)) (cwV 0 G0.2.2.2.2 g_X12_clauseText_X12_look_146 rfl rfl rfl (by decide +kernel) ⟨(Nat.le_of_ble_eq_true rfl), (Nat.le_of_ble_eq_true rfl)⟩) (py_preV hw (C := RX12) (T := TX12) (N := 54) rfl hr_35) rfl rfl hl.1 rfl (lv_room (Nat.le_of_ble_eq_true rfl)) dX12_clauseText_1 ⟨(Nat.le_of_ble_eq_true rfl), (Nat.le_of_ble_eq_true rfl)⟩) (fun r_45 L_41 f_42 H_43 locs hp_44 hw => ?_)
  obtain ⟨en_46, en_47, en_48, hWF, kp_49, fk_50⟩ := hp_44
  have h18 := (kp_f kp_49 (wt12_18 hG Tu) (by decide) (by decide) (fun _ => by decide)).trans h18
  have hFK := hFK.trans fk_50 (by decide)
  have hKP := hKP.trans kp_49 (by decide) (by decide)
  obtain ⟨v_51, hr_52⟩ := fk_3 hWF Tu fk_50 hr_35
  have tq_53 := mi_row hr_52 2 rfl
  have tq_54 := mi_row hr_52 3 rfl
  have bv_51 := wf_free v_51
  have tq_55 := mi_row hr_52 4 rfl
  have bv_4 := wf_free v_4
  have tq_56 := mi_row hr_52 19 rfl
  have tq_57 := mi_row hr_52 20 rfl
  have br_45 := wf_free r_45
  refine lv_istore_n (lv' := [(1, .int r_45), (0, .ref u)]) G0.1 G0.2.1 dX12_clauseText_4 rfl hl (by decide) rfl (fun ls hl => ?_)
  refine lv_iload_n G0.1 G0.2.1 dX12_clauseText_5 rfl (lv_at hl 0 rfl) ?_
  refine lv_bipush (v := 108) G0.1 G0.2.1 dX12_clauseText_6 (by decide) ?_
  refine lv_icmp_ne (tgt := 15) G0.1 G0.2.1 dX12_clauseText_8 (by decide) (fun c_58 => ?_) (fun c_58 => ?_)
  · skip
    have tc_58 := ti_ne c_58
    refine lv_iconst (v := 0) G0.1 G0.2.1 dX12_clauseText_15 (by decide) ?_
    refine lv_istore_n (lv' := [(2, .int 0), (1, .int r_45), (0, .ref u)]) G0.1 G0.2.1 dX12_clauseText_16 rfl hl (by decide) rfl (fun ls hl => ?_)
    refine lv_iload_n G0.1 G0.2.1 dX12_clauseText_17 rfl (lv_at hl 0 rfl) ?_
    refine lv_if_ne (tgt := 27) G0.1 G0.2.1 dX12_clauseText_18 (by decide) (fun c_59 => ?_) (fun c_59 => ?_)
    · skip
      exact absurd c_59 (by decide)
    · skip
      have tc_59 := ti_eq c_59
      refine lv_iload_n G0.1 G0.2.1 dX12_clauseText_21 rfl (lv_at hl 1 rfl) ?_
      refine lv_bipush (v := 107) G0.1 G0.2.1 dX12_clauseText_22 (by decide) ?_
      refine lv_icmp_ne (tgt := 52) G0.1 G0.2.1 dX12_clauseText_24 (by decide) (fun c_60 => ?_) (fun c_60 => ?_)
      · skip
        have tc_60 := ti_ne c_60
        refine lv_aload_n G0.1 G0.2.1 dX12_clauseText_52 rfl (lv_at hl 2 rfl) ?_
        refine py_callv hw (va_runV (As := []) (rest := []) G0 (c_X12_bad l E G L_41 f_42 H_43.size u hG hWF Tu (show 0 ≤ mi f_42 u 3 by omega)) (cwV 0 G0.2.2.2.2 g_X12_clauseText_X12_bad_143 rfl rfl rfl (by decide +kernel) ⟨(Nat.le_of_ble_eq_true rfl), (Nat.le_of_ble_eq_true rfl)⟩) (py_preV hw (C := RX12) (T := TX12) (N := 54) rfl hr_52) rfl rfl hl.1 rfl (lv_room (Nat.le_of_ble_eq_true rfl)) dX12_clauseText_53 ⟨(Nat.le_of_ble_eq_true rfl), (Nat.le_of_ble_eq_true rfl)⟩) (fun L_61 f_62 H_63 locs hp_64 hw => ?_)
        obtain ⟨en_66, en_67, hWF, kp_68, fk_69⟩ := hp_64
        have h18 := (kp_f kp_68 (wt12_18 hG Tu) (by decide) (by decide) (fun _ => by decide)).trans h18
        have hFK := hFK.trans fk_69 (by decide)
        have hKP := hKP.trans kp_68 (by decide) (by decide)
        obtain ⟨v_70, hr_71⟩ := fk_4 hWF Tu fk_69 hr_52
        have tq_72 := mi_row hr_71 2 rfl
        have tq_73 := mi_row hr_71 3 rfl
        have bv_51 := wf_free v_51
        have tq_74 := mi_row hr_71 4 rfl
        have bv_70 := wf_free v_70
        have tq_75 := mi_row hr_71 19 rfl
        have tq_76 := mi_row hr_71 20 rfl
        exact py_vret G0 hr hlk hw ⟨(by first | omega | (intro q; omega)), (fun hrf hw => hrf.same h18 (by omega)), hWF, hKP, hFK⟩ dX12_clauseText_56
      · skip
        have tc_60 := ti_eq c_60
        refine lv_iload_n G0.1 G0.2.1 dX12_clauseText_27 rfl (lv_at hl 0 rfl) ?_
        refine lv_if_eq (tgt := 43) G0.1 G0.2.1 dX12_clauseText_28 (by decide) (fun c_77 => ?_) (fun c_77 => ?_)
        · skip
          have tc_77 := ti_eq c_77
          refine lv_aload_n G0.1 G0.2.1 dX12_clauseText_43 rfl (lv_at hl 2 rfl) ?_
          refine py_get (C := RX12) (T := TX12) (N := 54) (k := 20) (v := .int v_9) G0 hw in_X12_clauseText_X12 rfl hr_52 (by decide) (by decide +kernel) rfl dX12_clauseText_44 ?_
          refine lv_bipush (v := 10) G0.1 G0.2.1 dX12_clauseText_47 (by decide) ?_
          refine lv_icmp_ne (tgt := 57) G0.1 G0.2.1 dX12_clauseText_49 (by decide) (fun c_78 => ?_) (fun c_78 => ?_)
          · skip
            have tc_78 := ti_ne c_78
            refine lv_aload_n G0.1 G0.2.1 dX12_clauseText_57 rfl (lv_at hl 2 rfl) ?_
            refine lv_dup G0.1 G0.2.1 dX12_clauseText_58 rfl ?_
            refine py_get (C := RX12) (T := TX12) (N := 54) (k := 3) (v := .int v_51) G0 hw in_X12_clauseText_X12 rfl hr_52 (by decide) (by decide +kernel) rfl dX12_clauseText_59 ?_
            refine lv_iconst (v := 1) G0.1 G0.2.1 dX12_clauseText_62 (by decide) ?_
            refine lv_iadd G0.1 G0.2.1 dX12_clauseText_63 ?_
            refine lv_topi (fun x_79 ex_79 => ?_)
            first | have tx_79 := ti_add ex_79 (by omega) (by omega) | skip
            refine py_put (C := RX12) (T := TX12) (N := 54) (k := 3) (v := .int x_79) (fs' := [.int v_1, .ref (G.2 u 1), .int v_2, .int x_79, .int v_4, .int v_5, .ref (G.2 u 6), .ref (G.2 u 7), .ref (G.2 u 8), .ref (G.2 u 9), .ref (G.2 u 10), .ref (G.2 u 11), .ref (G.2 u 12), .int v_6, .int v_7, .ref (G.2 u 15), .ref (G.2 u 16), .ref (G.2 u 17), .ref (G.2 u 18), .int v_8, .int v_9, .ref (G.2 u 21), .ref (G.2 u 22), .ref (G.2 u 23), .int v_10, .int v_11, .ref (G.2 u 26), .ref (G.2 u 27), .ref (G.2 u 28), .int v_12, .long y_13, .int v_14, .int v_15, .int v_16, .int v_17, .ref (G.2 u 35), .ref (G.2 u 36), .ref (G.2 u 37), .ref (G.2 u 38), .ref (G.2 u 39), .ref (G.2 u 40), .ref (G.2 u 41), .ref (G.2 u 42), .int v_18, .ref (G.2 u 44), .ref (G.2 u 45), .ref (G.2 u 46), .ref (G.2 u 47), .long y_19, .ref (G.2 u 49), .ref (G.2 u 50), .int v_20, .long y_21, .int v_22]) (ty0 := tyX12) G0 hw tyX12_ok nmX12 in_X12_clauseText_X12 rfl hr_52 (by decide) (by decide +kernel) rfl rfl rfl rfl (Nat.le_of_ble_eq_true rfl) rfl dX12_clauseText_64 (fun f_80 H_81 locs h_82 x_83 hw => ?_)
            have h18 := (x_83 _ (hWF _ (by rw [(wt12_18 hG Tu)]; decide)).1 (wf_ne (wt12_18 hG Tu) Tu (by decide))).2.trans h18
            have hFK := hFK.put hr_52 h_82 3 (by decide) rfl
            have hKP := hKP.upd hWF x_83 Tu (Or.inl (by decide))
            have hWF := wf_upd hWF h_82 x_83 (by rw [Tu]; exact ⟨v_1, v_2, x_79, v_4, v_5, v_6, v_7, v_8, v_9, v_10, v_11, v_12, y_13, v_14, v_15, v_16, v_17, v_18, y_19, v_20, y_21, v_22, rfl, ⟨by omega, by omega⟩, ⟨by omega, by omega⟩, ⟨by omega, by omega⟩, ⟨by omega, by omega⟩, ⟨by omega, by omega⟩, ⟨by omega, by omega⟩, ⟨by omega, by omega⟩, ⟨by omega, by omega⟩, ⟨by omega, by omega⟩, ⟨by omega, by omega⟩, ⟨by omega, by omega⟩, ⟨by omega, by omega⟩⟩)
            have tq_84 := mi_row h_82 2 rfl
            have tq_85 := mi_row h_82 3 rfl
            have bx_79 := wf_free x_79
            have tq_86 := mi_row h_82 4 rfl
            have bv_4 := wf_free v_4
            have tq_87 := mi_row h_82 19 rfl
            have tq_88 := mi_row h_82 20 rfl
            refine lv_aload_n G0.1 G0.2.1 dX12_clauseText_67 rfl (lv_at hl 2 rfl) ?_
            refine lv_iload_n G0.1 G0.2.1 dX12_clauseText_68 rfl (lv_at hl 0 rfl) ?_
            refine lv_iload_n G0.1 G0.2.1 dX12_clauseText_69 rfl (lv_at hl 0 rfl) ?_
            refine lv_if_eq (tgt := 80) G0.1 G0.2.1 dX12_clauseText_70 (by decide) (fun c_89 => ?_) (fun c_89 => ?_)
            · skip
              have tc_89 := ti_eq c_89
              refine lv_aload_n G0.1 G0.2.1 dX12_clauseText_80 rfl (lv_at hl 2 rfl) ?_
              refine py_get (C := RX12) (T := TX12) (N := 54) (k := 18) (v := .ref (G.2 u 18)) G0 hw in_X12_clauseText_X12 rfl h_82 (by decide) (by decide +kernel) rfl dX12_clauseText_81 ?_
              refine lv_iconst (v := 4) G0.1 G0.2.1 dX12_clauseText_84 (by decide) ?_
              refine lv_iload_n G0.1 G0.2.1 dX12_clauseText_85 rfl (lv_at hl 0 rfl) ?_
              refine lv_if_eq (tgt := 96) G0.1 G0.2.1 dX12_clauseText_86 (by decide) (fun c_90 => ?_) (fun c_90 => ?_)
              · skip
                have tc_90 := ti_eq c_90
                refine lv_aload_n G0.1 G0.2.1 dX12_clauseText_96 rfl (lv_at hl 2 rfl) ?_
                refine py_get (C := RX12) (T := TX12) (N := 54) (k := 20) (v := .int v_9) G0 hw in_X12_clauseText_X12 rfl h_82 (by decide) (by decide +kernel) rfl dX12_clauseText_97 ?_
                refine lv_imul G0.1 G0.2.1 dX12_clauseText_100 ?_
                refine lv_topi (fun x_91 ex_91 => ?_)
                first | have tx_91 := ti_muld ex_91 kc4 (by omega) (by omega) | skip
                refine py_callv hw (va_runV (As := [.int 0, .ref (G.2 u 18), .int x_91]) (rest := []) G0 (c_X12_items51 l E G L_41 f_80 H_81.size u (G.2 u 18) x_91 hG hWF Tu (wt12_18 hG Tu) ⟨by omega, by omega⟩ (show 0 ≤ mi f_80 u 3 ∧ mi f_80 u 4 = -1 by omega)) (cwV 3 G0.2.2.2.2 g_X12_clauseText_X12_items_270 rfl rfl rfl (by decide +kernel) ⟨(Nat.le_of_ble_eq_true rfl), (Nat.le_of_ble_eq_true rfl)⟩) (py_preV hw (C := RX12) (T := TX12) (N := 54) rfl h_82) rfl rfl hl.1 rfl (lv_room (Nat.le_of_ble_eq_true rfl)) dX12_clauseText_101 ⟨(Nat.le_of_ble_eq_true rfl), (Nat.le_of_ble_eq_true rfl)⟩) (fun L_92 f_93 H_94 locs hp_95 hw => ?_)
                obtain ⟨en_97, en_98, en_99, hWF, kp_100, fk_101⟩ := hp_95
                have hFK := hFK.trans fk_101 (by decide)
                have hKP := hKP.trans kp_100 (by decide) (by decide)
                obtain ⟨v_102, v_103, hr_104⟩ := fk_3_4 hWF Tu fk_101 h_82
                have tq_105 := mi_row hr_104 2 rfl
                have tq_106 := mi_row hr_104 3 rfl
                have bv_102 := wf_free v_102
                have tq_107 := mi_row hr_104 4 rfl
                have bv_103 := wf_free v_103
                have tq_108 := mi_row hr_104 19 rfl
                have tq_109 := mi_row hr_104 20 rfl
                have hIT := en_98
                have hPF := en_99
                have h18b : f_93 (G.2 u 18) = f_93 (G.2 u 18) := rfl
                have h18a := h18
                have hw4 : mi f_93 u 4 = mi f_93 u 4 := rfl
                refine lv_aload_n G0.1 G0.2.1 dX12_clauseText_104 rfl (lv_at hl 2 rfl) ?_
                refine lv_dup G0.1 G0.2.1 dX12_clauseText_105 rfl ?_
                refine py_get (C := RX12) (T := TX12) (N := 54) (k := 19) (v := .int v_8) G0 hw in_X12_clauseText_X12 rfl hr_104 (by decide) (by decide +kernel) rfl dX12_clauseText_106 ?_
                refine lv_iload_n G0.1 G0.2.1 dX12_clauseText_109 rfl (lv_at hl 0 rfl) ?_
                refine lv_if_eq (tgt := 117) G0.1 G0.2.1 dX12_clauseText_110 (by decide) (fun c_110 => ?_) (fun c_110 => ?_)
                · skip
                  have tc_110 := ti_eq c_110
                  refine lv_iconst (v := 0) G0.1 G0.2.1 dX12_clauseText_117 (by decide) ?_
                  refine lv_iadd G0.1 G0.2.1 dX12_clauseText_118 ?_
                  refine lv_topi (fun x_111 ex_111 => ?_)
                  first | have tx_111 := ti_add ex_111 (by omega) (by omega) | skip
                  refine py_put (C := RX12) (T := TX12) (N := 54) (k := 19) (v := .int x_111) (fs' := [.int v_1, .ref (G.2 u 1), .int v_2, .int v_102, .int v_103, .int v_5, .ref (G.2 u 6), .ref (G.2 u 7), .ref (G.2 u 8), .ref (G.2 u 9), .ref (G.2 u 10), .ref (G.2 u 11), .ref (G.2 u 12), .int v_6, .int v_7, .ref (G.2 u 15), .ref (G.2 u 16), .ref (G.2 u 17), .ref (G.2 u 18), .int x_111, .int v_9, .ref (G.2 u 21), .ref (G.2 u 22), .ref (G.2 u 23), .int v_10, .int v_11, .ref (G.2 u 26), .ref (G.2 u 27), .ref (G.2 u 28), .int v_12, .long y_13, .int v_14, .int v_15, .int v_16, .int v_17, .ref (G.2 u 35), .ref (G.2 u 36), .ref (G.2 u 37), .ref (G.2 u 38), .ref (G.2 u 39), .ref (G.2 u 40), .ref (G.2 u 41), .ref (G.2 u 42), .int v_18, .ref (G.2 u 44), .ref (G.2 u 45), .ref (G.2 u 46), .ref (G.2 u 47), .long y_19, .ref (G.2 u 49), .ref (G.2 u 50), .int v_20, .long y_21, .int v_22]) (ty0 := tyX12) G0 hw tyX12_ok nmX12 in_X12_clauseText_X12 rfl hr_104 (by decide) (by decide +kernel) rfl rfl rfl rfl (Nat.le_of_ble_eq_true rfl) rfl dX12_clauseText_119 (fun f_112 H_113 locs h_114 x_115 hw => ?_)
                  have h18b := (x_115 _ (hWF _ (by rw [(wt12_18 hG Tu)]; decide)).1 (wf_ne (wt12_18 hG Tu) Tu (by decide))).2.trans h18b
                  have hFK := hFK.put hr_104 h_114 19 (by decide) rfl
                  have hKP := hKP.upd hWF x_115 Tu (Or.inl (by decide))
                  have hWF := wf_upd hWF h_114 x_115 (by rw [Tu]; exact ⟨v_1, v_2, v_102, v_103, v_5, v_6, v_7, x_111, v_9, v_10, v_11, v_12, y_13, v_14, v_15, v_16, v_17, v_18, y_19, v_20, y_21, v_22, rfl, ⟨by omega, by omega⟩, ⟨by omega, by omega⟩, ⟨by omega, by omega⟩, ⟨by omega, by omega⟩, ⟨by omega, by omega⟩, ⟨by omega, by omega⟩, ⟨by omega, by omega⟩, ⟨by omega, by omega⟩, ⟨by omega, by omega⟩, ⟨by omega, by omega⟩, ⟨by omega, by omega⟩, ⟨by omega, by omega⟩⟩)
                  have tq_116 := mi_row h_114 2 rfl
                  have tq_117 := mi_row h_114 3 rfl
                  have bv_102 := wf_free v_102
                  have tq_118 := mi_row h_114 4 rfl
                  have bv_103 := wf_free v_103
                  have tq_119 := mi_row h_114 19 rfl
                  have tq_120 := mi_row h_114 20 rfl
                  refine lv_aload_n G0.1 G0.2.1 dX12_clauseText_122 rfl (lv_at hl 2 rfl) ?_
                  refine lv_dup G0.1 G0.2.1 dX12_clauseText_123 rfl ?_
                  refine py_get (C := RX12) (T := TX12) (N := 54) (k := 20) (v := .int v_9) G0 hw in_X12_clauseText_X12 rfl h_114 (by decide) (by decide +kernel) rfl dX12_clauseText_124 ?_
                  refine lv_iload_n G0.1 G0.2.1 dX12_clauseText_127 rfl (lv_at hl 0 rfl) ?_
                  refine lv_if_eq (tgt := 135) G0.1 G0.2.1 dX12_clauseText_128 (by decide) (fun c_121 => ?_) (fun c_121 => ?_)
                  · skip
                    have tc_121 := ti_eq c_121
                    refine lv_iconst (v := 1) G0.1 G0.2.1 dX12_clauseText_135 (by decide) ?_
                    refine lv_iadd G0.1 G0.2.1 dX12_clauseText_136 ?_
                    refine lv_topi (fun x_122 ex_122 => ?_)
                    first | have tx_122 := ti_add ex_122 (by omega) (by omega) | skip
                    refine py_put (C := RX12) (T := TX12) (N := 54) (k := 20) (v := .int x_122) (fs' := [.int v_1, .ref (G.2 u 1), .int v_2, .int v_102, .int v_103, .int v_5, .ref (G.2 u 6), .ref (G.2 u 7), .ref (G.2 u 8), .ref (G.2 u 9), .ref (G.2 u 10), .ref (G.2 u 11), .ref (G.2 u 12), .int v_6, .int v_7, .ref (G.2 u 15), .ref (G.2 u 16), .ref (G.2 u 17), .ref (G.2 u 18), .int x_111, .int x_122, .ref (G.2 u 21), .ref (G.2 u 22), .ref (G.2 u 23), .int v_10, .int v_11, .ref (G.2 u 26), .ref (G.2 u 27), .ref (G.2 u 28), .int v_12, .long y_13, .int v_14, .int v_15, .int v_16, .int v_17, .ref (G.2 u 35), .ref (G.2 u 36), .ref (G.2 u 37), .ref (G.2 u 38), .ref (G.2 u 39), .ref (G.2 u 40), .ref (G.2 u 41), .ref (G.2 u 42), .int v_18, .ref (G.2 u 44), .ref (G.2 u 45), .ref (G.2 u 46), .ref (G.2 u 47), .long y_19, .ref (G.2 u 49), .ref (G.2 u 50), .int v_20, .long y_21, .int v_22]) (ty0 := tyX12) G0 hw tyX12_ok nmX12 in_X12_clauseText_X12 rfl h_114 (by decide) (by decide +kernel) rfl rfl rfl rfl (Nat.le_of_ble_eq_true rfl) rfl dX12_clauseText_137 (fun f_123 H_124 locs h_125 x_126 hw => ?_)
                    have h18b := (x_126 _ (hWF _ (by rw [(wt12_18 hG Tu)]; decide)).1 (wf_ne (wt12_18 hG Tu) Tu (by decide))).2.trans h18b
                    have hFK := hFK.put h_114 h_125 20 (by decide) rfl
                    have hKP := hKP.upd hWF x_126 Tu (Or.inl (by decide))
                    have hWF := wf_upd hWF h_125 x_126 (by rw [Tu]; exact ⟨v_1, v_2, v_102, v_103, v_5, v_6, v_7, x_111, x_122, v_10, v_11, v_12, y_13, v_14, v_15, v_16, v_17, v_18, y_19, v_20, y_21, v_22, rfl, ⟨by omega, by omega⟩, ⟨by omega, by omega⟩, ⟨by omega, by omega⟩, ⟨by omega, by omega⟩, ⟨by omega, by omega⟩, ⟨by omega, by omega⟩, ⟨by omega, by omega⟩, ⟨by omega, by omega⟩, ⟨by omega, by omega⟩, ⟨by omega, by omega⟩, ⟨by omega, by omega⟩, ⟨by omega, by omega⟩⟩)
                    have tq_127 := mi_row h_125 2 rfl
                    have tq_128 := mi_row h_125 3 rfl
                    have bv_102 := wf_free v_102
                    have tq_129 := mi_row h_125 4 rfl
                    have bv_103 := wf_free v_103
                    have tq_130 := mi_row h_125 19 rfl
                    have tq_131 := mi_row h_125 20 rfl
                    exact py_vret G0 hr hlk hw ⟨(by first | omega | (intro q; omega)), (fun hrf hw => RFm.step (f1 := f_93) (hrf.same h18a rfl) hPF ((hIT (by omega)).cast (by omega)) (by omega) rfl |>.same h18b (by omega)), hWF, hKP, hFK⟩ dX12_clauseText_140
                  · skip
                    exact absurd c_121 (by decide)
                · skip
                  exact absurd c_110 (by decide)
              · skip
                exact absurd c_90 (by decide)
            · skip
              exact absurd c_89 (by decide)
          · skip
            have tc_78 := ti_eq c_78
            refine lv_aload_n G0.1 G0.2.1 dX12_clauseText_52 rfl (lv_at hl 2 rfl) ?_
            refine py_callv hw (va_runV (As := []) (rest := []) G0 (c_X12_bad l E G L_41 f_42 H_43.size u hG hWF Tu (show 0 ≤ mi f_42 u 3 by omega)) (cwV 0 G0.2.2.2.2 g_X12_clauseText_X12_bad_143 rfl rfl rfl (by decide +kernel) ⟨(Nat.le_of_ble_eq_true rfl), (Nat.le_of_ble_eq_true rfl)⟩) (py_preV hw (C := RX12) (T := TX12) (N := 54) rfl hr_52) rfl rfl hl.1 rfl (lv_room (Nat.le_of_ble_eq_true rfl)) dX12_clauseText_53 ⟨(Nat.le_of_ble_eq_true rfl), (Nat.le_of_ble_eq_true rfl)⟩) (fun L_132 f_133 H_134 locs hp_135 hw => ?_)
            obtain ⟨en_137, en_138, hWF, kp_139, fk_140⟩ := hp_135
            have h18 := (kp_f kp_139 (wt12_18 hG Tu) (by decide) (by decide) (fun _ => by decide)).trans h18
            have hFK := hFK.trans fk_140 (by decide)
            have hKP := hKP.trans kp_139 (by decide) (by decide)
            obtain ⟨v_141, hr_142⟩ := fk_4 hWF Tu fk_140 hr_52
            have tq_143 := mi_row hr_142 2 rfl
            have tq_144 := mi_row hr_142 3 rfl
            have bv_51 := wf_free v_51
            have tq_145 := mi_row hr_142 4 rfl
            have bv_141 := wf_free v_141
            have tq_146 := mi_row hr_142 19 rfl
            have tq_147 := mi_row hr_142 20 rfl
            exact py_vret G0 hr hlk hw ⟨(by first | omega | (intro q; omega)), (fun hrf hw => hrf.same h18 (by omega)), hWF, hKP, hFK⟩ dX12_clauseText_56
        · skip
          exact absurd c_77 (by decide)
  · skip
    have tc_58 := ti_eq c_58
    refine lv_iconst (v := 1) G0.1 G0.2.1 dX12_clauseText_11 (by decide) ?_
    refine lv_goto (tgt := 16) G0.1 G0.2.1 dX12_clauseText_12 (by decide) ?_
    refine lv_istore_n (lv' := [(2, .int 1), (1, .int r_45), (0, .ref u)]) G0.1 G0.2.1 dX12_clauseText_16 rfl hl (by decide) rfl (fun ls hl => ?_)
    refine lv_iload_n G0.1 G0.2.1 dX12_clauseText_17 rfl (lv_at hl 0 rfl) ?_
    refine lv_if_ne (tgt := 27) G0.1 G0.2.1 dX12_clauseText_18 (by decide) (fun c_148 => ?_) (fun c_148 => ?_)
    · skip
      have tc_148 := ti_ne c_148
      refine lv_iload_n G0.1 G0.2.1 dX12_clauseText_27 rfl (lv_at hl 0 rfl) ?_
      refine lv_if_eq (tgt := 43) G0.1 G0.2.1 dX12_clauseText_28 (by decide) (fun c_149 => ?_) (fun c_149 => ?_)
      · skip
        exact absurd c_149 (by decide)
      · skip
        have tc_149 := ti_ne c_149
        refine lv_aload_n G0.1 G0.2.1 dX12_clauseText_31 rfl (lv_at hl 2 rfl) ?_
        refine py_get (C := RX12) (T := TX12) (N := 54) (k := 19) (v := .int v_8) G0 hw in_X12_clauseText_X12 rfl hr_52 (by decide) (by decide +kernel) rfl dX12_clauseText_32 ?_
        refine lv_bipush (v := 8) G0.1 G0.2.1 dX12_clauseText_35 (by decide) ?_
        refine lv_icmp_ne (tgt := 57) G0.1 G0.2.1 dX12_clauseText_37 (by decide) (fun c_150 => ?_) (fun c_150 => ?_)
        · skip
          have tc_150 := ti_ne c_150
          refine lv_aload_n G0.1 G0.2.1 dX12_clauseText_57 rfl (lv_at hl 2 rfl) ?_
          refine lv_dup G0.1 G0.2.1 dX12_clauseText_58 rfl ?_
          refine py_get (C := RX12) (T := TX12) (N := 54) (k := 3) (v := .int v_51) G0 hw in_X12_clauseText_X12 rfl hr_52 (by decide) (by decide +kernel) rfl dX12_clauseText_59 ?_
          refine lv_iconst (v := 1) G0.1 G0.2.1 dX12_clauseText_62 (by decide) ?_
          refine lv_iadd G0.1 G0.2.1 dX12_clauseText_63 ?_
          refine lv_topi (fun x_151 ex_151 => ?_)
          first | have tx_151 := ti_add ex_151 (by omega) (by omega) | skip
          refine py_put (C := RX12) (T := TX12) (N := 54) (k := 3) (v := .int x_151) (fs' := [.int v_1, .ref (G.2 u 1), .int v_2, .int x_151, .int v_4, .int v_5, .ref (G.2 u 6), .ref (G.2 u 7), .ref (G.2 u 8), .ref (G.2 u 9), .ref (G.2 u 10), .ref (G.2 u 11), .ref (G.2 u 12), .int v_6, .int v_7, .ref (G.2 u 15), .ref (G.2 u 16), .ref (G.2 u 17), .ref (G.2 u 18), .int v_8, .int v_9, .ref (G.2 u 21), .ref (G.2 u 22), .ref (G.2 u 23), .int v_10, .int v_11, .ref (G.2 u 26), .ref (G.2 u 27), .ref (G.2 u 28), .int v_12, .long y_13, .int v_14, .int v_15, .int v_16, .int v_17, .ref (G.2 u 35), .ref (G.2 u 36), .ref (G.2 u 37), .ref (G.2 u 38), .ref (G.2 u 39), .ref (G.2 u 40), .ref (G.2 u 41), .ref (G.2 u 42), .int v_18, .ref (G.2 u 44), .ref (G.2 u 45), .ref (G.2 u 46), .ref (G.2 u 47), .long y_19, .ref (G.2 u 49), .ref (G.2 u 50), .int v_20, .long y_21, .int v_22]) (ty0 := tyX12) G0 hw tyX12_ok nmX12 in_X12_clauseText_X12 rfl hr_52 (by decide) (by decide +kernel) rfl rfl rfl rfl (Nat.le_of_ble_eq_true rfl) rfl dX12_clauseText_64 (fun f_152 H_153 locs h_154 x_155 hw => ?_)
          have h18 := (x_155 _ (hWF _ (by rw [(wt12_18 hG Tu)]; decide)).1 (wf_ne (wt12_18 hG Tu) Tu (by decide))).2.trans h18
          have hFK := hFK.put hr_52 h_154 3 (by decide) rfl
          have hKP := hKP.upd hWF x_155 Tu (Or.inl (by decide))
          have hWF := wf_upd hWF h_154 x_155 (by rw [Tu]; exact ⟨v_1, v_2, x_151, v_4, v_5, v_6, v_7, v_8, v_9, v_10, v_11, v_12, y_13, v_14, v_15, v_16, v_17, v_18, y_19, v_20, y_21, v_22, rfl, ⟨by omega, by omega⟩, ⟨by omega, by omega⟩, ⟨by omega, by omega⟩, ⟨by omega, by omega⟩, ⟨by omega, by omega⟩, ⟨by omega, by omega⟩, ⟨by omega, by omega⟩, ⟨by omega, by omega⟩, ⟨by omega, by omega⟩, ⟨by omega, by omega⟩, ⟨by omega, by omega⟩, ⟨by omega, by omega⟩⟩)
          have tq_156 := mi_row h_154 2 rfl
          have tq_157 := mi_row h_154 3 rfl
          have bx_151 := wf_free x_151
          have tq_158 := mi_row h_154 4 rfl
          have bv_4 := wf_free v_4
          have tq_159 := mi_row h_154 19 rfl
          have tq_160 := mi_row h_154 20 rfl
          refine lv_aload_n G0.1 G0.2.1 dX12_clauseText_67 rfl (lv_at hl 2 rfl) ?_
          refine lv_iload_n G0.1 G0.2.1 dX12_clauseText_68 rfl (lv_at hl 0 rfl) ?_
          refine lv_iload_n G0.1 G0.2.1 dX12_clauseText_69 rfl (lv_at hl 0 rfl) ?_
          refine lv_if_eq (tgt := 80) G0.1 G0.2.1 dX12_clauseText_70 (by decide) (fun c_161 => ?_) (fun c_161 => ?_)
          · skip
            exact absurd c_161 (by decide)
          · skip
            have tc_161 := ti_ne c_161
            refine lv_aload_n G0.1 G0.2.1 dX12_clauseText_73 rfl (lv_at hl 2 rfl) ?_
            refine py_get (C := RX12) (T := TX12) (N := 54) (k := 17) (v := .ref (G.2 u 17)) G0 hw in_X12_clauseText_X12 rfl h_154 (by decide) (by decide +kernel) rfl dX12_clauseText_74 ?_
            refine lv_goto (tgt := 84) G0.1 G0.2.1 dX12_clauseText_77 (by decide) ?_
            refine lv_iconst (v := 4) G0.1 G0.2.1 dX12_clauseText_84 (by decide) ?_
            refine lv_iload_n G0.1 G0.2.1 dX12_clauseText_85 rfl (lv_at hl 0 rfl) ?_
            refine lv_if_eq (tgt := 96) G0.1 G0.2.1 dX12_clauseText_86 (by decide) (fun c_162 => ?_) (fun c_162 => ?_)
            · skip
              exact absurd c_162 (by decide)
            · skip
              have tc_162 := ti_ne c_162
              refine lv_aload_n G0.1 G0.2.1 dX12_clauseText_89 rfl (lv_at hl 2 rfl) ?_
              refine py_get (C := RX12) (T := TX12) (N := 54) (k := 19) (v := .int v_8) G0 hw in_X12_clauseText_X12 rfl h_154 (by decide) (by decide +kernel) rfl dX12_clauseText_90 ?_
              refine lv_goto (tgt := 100) G0.1 G0.2.1 dX12_clauseText_93 (by decide) ?_
              refine lv_imul G0.1 G0.2.1 dX12_clauseText_100 ?_
              refine lv_topi (fun x_163 ex_163 => ?_)
              first | have tx_163 := ti_muld ex_163 kc4 (by omega) (by omega) | skip
              refine py_callv hw (va_runV (As := [.int 1, .ref (G.2 u 17), .int x_163]) (rest := []) G0 (c_X12_items50 l E G L_41 f_152 H_153.size u (G.2 u 17) x_163 hG hWF Tu (wt12_17 hG Tu) ⟨by omega, by omega⟩ (show 0 ≤ mi f_152 u 3 ∧ mi f_152 u 4 = -1 by omega)) (cwV 3 G0.2.2.2.2 g_X12_clauseText_X12_items_270 rfl rfl rfl (by decide +kernel) ⟨(Nat.le_of_ble_eq_true rfl), (Nat.le_of_ble_eq_true rfl)⟩) (py_preV hw (C := RX12) (T := TX12) (N := 54) rfl h_154) rfl rfl hl.1 rfl (lv_room (Nat.le_of_ble_eq_true rfl)) dX12_clauseText_101 ⟨(Nat.le_of_ble_eq_true rfl), (Nat.le_of_ble_eq_true rfl)⟩) (fun L_164 f_165 H_166 locs hp_167 hw => ?_)
              obtain ⟨en_169, hWF, kp_170, fk_171⟩ := hp_167
              have h18 := (kp_f kp_170 (wt12_18 hG Tu) (by decide) (by decide) (fun _ => by decide)).trans h18
              have hFK := hFK.trans fk_171 (by decide)
              have hKP := hKP.trans kp_170 (by decide) (by decide)
              obtain ⟨v_172, v_173, hr_174⟩ := fk_3_4 hWF Tu fk_171 h_154
              have tq_175 := mi_row hr_174 2 rfl
              have tq_176 := mi_row hr_174 3 rfl
              have bv_172 := wf_free v_172
              have tq_177 := mi_row hr_174 4 rfl
              have bv_173 := wf_free v_173
              have tq_178 := mi_row hr_174 19 rfl
              have tq_179 := mi_row hr_174 20 rfl
              refine lv_aload_n G0.1 G0.2.1 dX12_clauseText_104 rfl (lv_at hl 2 rfl) ?_
              refine lv_dup G0.1 G0.2.1 dX12_clauseText_105 rfl ?_
              refine py_get (C := RX12) (T := TX12) (N := 54) (k := 19) (v := .int v_8) G0 hw in_X12_clauseText_X12 rfl hr_174 (by decide) (by decide +kernel) rfl dX12_clauseText_106 ?_
              refine lv_iload_n G0.1 G0.2.1 dX12_clauseText_109 rfl (lv_at hl 0 rfl) ?_
              refine lv_if_eq (tgt := 117) G0.1 G0.2.1 dX12_clauseText_110 (by decide) (fun c_180 => ?_) (fun c_180 => ?_)
              · skip
                exact absurd c_180 (by decide)
              · skip
                have tc_180 := ti_ne c_180
                refine lv_iconst (v := 1) G0.1 G0.2.1 dX12_clauseText_113 (by decide) ?_
                refine lv_goto (tgt := 118) G0.1 G0.2.1 dX12_clauseText_114 (by decide) ?_
                refine lv_iadd G0.1 G0.2.1 dX12_clauseText_118 ?_
                refine lv_topi (fun x_181 ex_181 => ?_)
                first | have tx_181 := ti_add ex_181 (by omega) (by omega) | skip
                refine py_put (C := RX12) (T := TX12) (N := 54) (k := 19) (v := .int x_181) (fs' := [.int v_1, .ref (G.2 u 1), .int v_2, .int v_172, .int v_173, .int v_5, .ref (G.2 u 6), .ref (G.2 u 7), .ref (G.2 u 8), .ref (G.2 u 9), .ref (G.2 u 10), .ref (G.2 u 11), .ref (G.2 u 12), .int v_6, .int v_7, .ref (G.2 u 15), .ref (G.2 u 16), .ref (G.2 u 17), .ref (G.2 u 18), .int x_181, .int v_9, .ref (G.2 u 21), .ref (G.2 u 22), .ref (G.2 u 23), .int v_10, .int v_11, .ref (G.2 u 26), .ref (G.2 u 27), .ref (G.2 u 28), .int v_12, .long y_13, .int v_14, .int v_15, .int v_16, .int v_17, .ref (G.2 u 35), .ref (G.2 u 36), .ref (G.2 u 37), .ref (G.2 u 38), .ref (G.2 u 39), .ref (G.2 u 40), .ref (G.2 u 41), .ref (G.2 u 42), .int v_18, .ref (G.2 u 44), .ref (G.2 u 45), .ref (G.2 u 46), .ref (G.2 u 47), .long y_19, .ref (G.2 u 49), .ref (G.2 u 50), .int v_20, .long y_21, .int v_22]) (ty0 := tyX12) G0 hw tyX12_ok nmX12 in_X12_clauseText_X12 rfl hr_174 (by decide) (by decide +kernel) rfl rfl rfl rfl (Nat.le_of_ble_eq_true rfl) rfl dX12_clauseText_119 (fun f_182 H_183 locs h_184 x_185 hw => ?_)
                have h18 := (x_185 _ (hWF _ (by rw [(wt12_18 hG Tu)]; decide)).1 (wf_ne (wt12_18 hG Tu) Tu (by decide))).2.trans h18
                have hFK := hFK.put hr_174 h_184 19 (by decide) rfl
                have hKP := hKP.upd hWF x_185 Tu (Or.inl (by decide))
                have hWF := wf_upd hWF h_184 x_185 (by rw [Tu]; exact ⟨v_1, v_2, v_172, v_173, v_5, v_6, v_7, x_181, v_9, v_10, v_11, v_12, y_13, v_14, v_15, v_16, v_17, v_18, y_19, v_20, y_21, v_22, rfl, ⟨by omega, by omega⟩, ⟨by omega, by omega⟩, ⟨by omega, by omega⟩, ⟨by omega, by omega⟩, ⟨by omega, by omega⟩, ⟨by omega, by omega⟩, ⟨by omega, by omega⟩, ⟨by omega, by omega⟩, ⟨by omega, by omega⟩, ⟨by omega, by omega⟩, ⟨by omega, by omega⟩, ⟨by omega, by omega⟩⟩)
                have tq_186 := mi_row h_184 2 rfl
                have tq_187 := mi_row h_184 3 rfl
                have bv_172 := wf_free v_172
                have tq_188 := mi_row h_184 4 rfl
                have bv_173 := wf_free v_173
                have tq_189 := mi_row h_184 19 rfl
                have tq_190 := mi_row h_184 20 rfl
                refine lv_aload_n G0.1 G0.2.1 dX12_clauseText_122 rfl (lv_at hl 2 rfl) ?_
                refine lv_dup G0.1 G0.2.1 dX12_clauseText_123 rfl ?_
                refine py_get (C := RX12) (T := TX12) (N := 54) (k := 20) (v := .int v_9) G0 hw in_X12_clauseText_X12 rfl h_184 (by decide) (by decide +kernel) rfl dX12_clauseText_124 ?_
                refine lv_iload_n G0.1 G0.2.1 dX12_clauseText_127 rfl (lv_at hl 0 rfl) ?_
                refine lv_if_eq (tgt := 135) G0.1 G0.2.1 dX12_clauseText_128 (by decide) (fun c_191 => ?_) (fun c_191 => ?_)
                · skip
                  exact absurd c_191 (by decide)
                · skip
                  have tc_191 := ti_ne c_191
                  refine lv_iconst (v := 0) G0.1 G0.2.1 dX12_clauseText_131 (by decide) ?_
                  refine lv_goto (tgt := 136) G0.1 G0.2.1 dX12_clauseText_132 (by decide) ?_
                  refine lv_iadd G0.1 G0.2.1 dX12_clauseText_136 ?_
                  refine lv_topi (fun x_192 ex_192 => ?_)
                  first | have tx_192 := ti_add ex_192 (by omega) (by omega) | skip
                  refine py_put (C := RX12) (T := TX12) (N := 54) (k := 20) (v := .int x_192) (fs' := [.int v_1, .ref (G.2 u 1), .int v_2, .int v_172, .int v_173, .int v_5, .ref (G.2 u 6), .ref (G.2 u 7), .ref (G.2 u 8), .ref (G.2 u 9), .ref (G.2 u 10), .ref (G.2 u 11), .ref (G.2 u 12), .int v_6, .int v_7, .ref (G.2 u 15), .ref (G.2 u 16), .ref (G.2 u 17), .ref (G.2 u 18), .int x_181, .int x_192, .ref (G.2 u 21), .ref (G.2 u 22), .ref (G.2 u 23), .int v_10, .int v_11, .ref (G.2 u 26), .ref (G.2 u 27), .ref (G.2 u 28), .int v_12, .long y_13, .int v_14, .int v_15, .int v_16, .int v_17, .ref (G.2 u 35), .ref (G.2 u 36), .ref (G.2 u 37), .ref (G.2 u 38), .ref (G.2 u 39), .ref (G.2 u 40), .ref (G.2 u 41), .ref (G.2 u 42), .int v_18, .ref (G.2 u 44), .ref (G.2 u 45), .ref (G.2 u 46), .ref (G.2 u 47), .long y_19, .ref (G.2 u 49), .ref (G.2 u 50), .int v_20, .long y_21, .int v_22]) (ty0 := tyX12) G0 hw tyX12_ok nmX12 in_X12_clauseText_X12 rfl h_184 (by decide) (by decide +kernel) rfl rfl rfl rfl (Nat.le_of_ble_eq_true rfl) rfl dX12_clauseText_137 (fun f_193 H_194 locs h_195 x_196 hw => ?_)
                  have h18 := (x_196 _ (hWF _ (by rw [(wt12_18 hG Tu)]; decide)).1 (wf_ne (wt12_18 hG Tu) Tu (by decide))).2.trans h18
                  have hFK := hFK.put h_184 h_195 20 (by decide) rfl
                  have hKP := hKP.upd hWF x_196 Tu (Or.inl (by decide))
                  have hWF := wf_upd hWF h_195 x_196 (by rw [Tu]; exact ⟨v_1, v_2, v_172, v_173, v_5, v_6, v_7, x_181, x_192, v_10, v_11, v_12, y_13, v_14, v_15, v_16, v_17, v_18, y_19, v_20, y_21, v_22, rfl, ⟨by omega, by omega⟩, ⟨by omega, by omega⟩, ⟨by omega, by omega⟩, ⟨by omega, by omega⟩, ⟨by omega, by omega⟩, ⟨by omega, by omega⟩, ⟨by omega, by omega⟩, ⟨by omega, by omega⟩, ⟨by omega, by omega⟩, ⟨by omega, by omega⟩, ⟨by omega, by omega⟩, ⟨by omega, by omega⟩⟩)
                  have tq_197 := mi_row h_195 2 rfl
                  have tq_198 := mi_row h_195 3 rfl
                  have bv_172 := wf_free v_172
                  have tq_199 := mi_row h_195 4 rfl
                  have bv_173 := wf_free v_173
                  have tq_200 := mi_row h_195 19 rfl
                  have tq_201 := mi_row h_195 20 rfl
                  exact py_vret G0 hr hlk hw ⟨(by first | omega | (intro q; omega)), (fun hrf hw => hrf.same h18 (by omega)), hWF, hKP, hFK⟩ dX12_clauseText_140
        · skip
          have tc_150 := ti_eq c_150
          refine lv_goto (tgt := 52) G0.1 G0.2.1 dX12_clauseText_40 (by decide) ?_
          refine lv_aload_n G0.1 G0.2.1 dX12_clauseText_52 rfl (lv_at hl 2 rfl) ?_
          refine py_callv hw (va_runV (As := []) (rest := []) G0 (c_X12_bad l E G L_41 f_42 H_43.size u hG hWF Tu (show 0 ≤ mi f_42 u 3 by omega)) (cwV 0 G0.2.2.2.2 g_X12_clauseText_X12_bad_143 rfl rfl rfl (by decide +kernel) ⟨(Nat.le_of_ble_eq_true rfl), (Nat.le_of_ble_eq_true rfl)⟩) (py_preV hw (C := RX12) (T := TX12) (N := 54) rfl hr_52) rfl rfl hl.1 rfl (lv_room (Nat.le_of_ble_eq_true rfl)) dX12_clauseText_53 ⟨(Nat.le_of_ble_eq_true rfl), (Nat.le_of_ble_eq_true rfl)⟩) (fun L_202 f_203 H_204 locs hp_205 hw => ?_)
          obtain ⟨en_207, en_208, hWF, kp_209, fk_210⟩ := hp_205
          have h18 := (kp_f kp_209 (wt12_18 hG Tu) (by decide) (by decide) (fun _ => by decide)).trans h18
          have hFK := hFK.trans fk_210 (by decide)
          have hKP := hKP.trans kp_209 (by decide) (by decide)
          obtain ⟨v_211, hr_212⟩ := fk_4 hWF Tu fk_210 hr_52
          have tq_213 := mi_row hr_212 2 rfl
          have tq_214 := mi_row hr_212 3 rfl
          have bv_51 := wf_free v_51
          have tq_215 := mi_row hr_212 4 rfl
          have bv_211 := wf_free v_211
          have tq_216 := mi_row hr_212 19 rfl
          have tq_217 := mi_row hr_212 20 rfl
          exact py_vret G0 hr hlk hw ⟨(by first | omega | (intro q; omega)), (fun hrf hw => hrf.same h18 (by omega)), hWF, hKP, hFK⟩ dX12_clauseText_56
    · skip
      exact absurd c_148 (by decide)

def w_X12_areHoused : List Cond := .code yX12_areHoused cX12_areHoused 4 (some .boolean) :: ([Cond.fieldLink RX12 267 "HeadYearModel" "readFamilies" "I", Cond.fieldLink RX12 264 "HeadYearModel" "readLevels" "I", Cond.fieldLink RX12 40 "HeadYearModel" "readLevel" "[I", Cond.fieldLink RX12 43 "HeadYearModel" "readFamily" "[I"] ++ (u_ws RX12 TX12 54 ++ ([])))
theorem in_X12_areHoused_X12 : ∀ w ∈ u_ws RX12 TX12 54, w ∈ w_X12_areHoused := fun _ h => List.mem_cons_of_mem _ (List.mem_append_right _ (List.mem_append_left _ h))
set_option maxHeartbeats 4000000 in
set_option maxRecDepth 100000 in
theorem c_X12_areHoused (l : Launch) (E : py_E) (G : wf_G) (L : List Nat) (f : py_F) (sz : Nat) (u : Nat) (hG : GT G) (hWF : WF E G L f) (Tu : G.1 u = 13) : Met l yX12_areHoused w_X12_areHoused ({ frames := 0, cells := 0, slots := 0, locals := 0 }) (py_Pc E [.ref u] L f sz) (py_Qi E L f sz (fun r L1 f1 => (0 ≤ r.toInt ∧ r.toInt ≤ 1) ∧ L = L1 ∧ f = f1)) 0 0 (va_A (va_pl L f) sz) := by
  refine Met.ofW (cc := cX12_areHoused) (maxL := 4) (ret := (some .boolean)) (by decide) rfl ?_
  intro p e s m args below meth c s₁ B hml hv
  obtain ⟨rfl, rfl, hw⟩ := py_start hv
  have G0 : CallFix p m c cX12_areHoused 4 s _ w_X12_areHoused RX12 := ⟨B.exec, B.bytes, hml, findClass_of_methodNamed B.named, atoms_spec (ws := w_X12_areHoused) B.pre⟩
  have hr := B.returns
  have hlk := B.notSynchronized
  have kcm1 : (-1 : Int32).toInt = -1 := rfl
  have kc0 : (0 : Int32).toInt = 0 := rfl
  have kc1 : (1 : Int32).toInt = 1 := rfl
  have kc4 : (4 : Int32).toInt = 4 := rfl
  have kc8 : (8 : Int32).toInt = 8 := rfl
  have hl := lv_entry ([.ref u]) (n := 4) (Nat.le_of_ble_eq_true rfl)
  rw [lg_entry_eq]
  generalize (lg_sl ([.ref u]) ++ List.replicate (4 - (lg_sl ([.ref u])).length) Slot.unset).toArray = ls at hl ⊢
  have hl : lv_has ls 4 [(0, .ref u)] := hl
  refine lv_iconst (v := 0) G0.1 G0.2.1 dX12_areHoused_0 (by decide) ?_
  refine lv_istore_n (lv' := [(1, .int 0), (0, .ref u)]) G0.1 G0.2.1 dX12_areHoused_1 rfl hl (by decide) rfl (fun ls hl => ?_)
  have lo_2 : ∀ n_2 : Nat, ∀ (v_1 : Int32) (H_j2 : Heap) (locs : List Loc) (ls : Array Slot), (2147483647 - v_1.toInt).toNat = n_2 → (0 ≤ v_1.toInt ∧ v_1.toInt ≤ 2147483647) → py_W E (va_A (va_pl L f) s.heap.size) s L f H_j2 locs → lv_has ls 4 [(1, .int v_1), (0, .ref u)] → W p l e (headSpec w_X12_areHoused ({ frames := 0, cells := 0, slots := 0, locals := 0 })).room s m ([.ref u] : List Value).toArray below meth c H_j2 locs 0 0 (MQ below (py_Qi E L f s.heap.size (fun r L1 f1 => (0 ≤ r.toInt ∧ r.toInt ≤ 1) ∧ L = L1 ∧ f = f1)) ([.ref u] : List Value).toArray s 0 0 (va_A (va_pl L f) s.heap.size)) (F0 m 2 ls []) := by
    intro n_2
    induction n_2 using Nat.strongRecOn with
    | _ n_2 ih_2 =>
      intro v_1 H_j2 locs ls hn_2 bv_1 hw hl
      refine lv_iload_n G0.1 G0.2.1 dX12_areHoused_2 rfl (lv_at hl 0 rfl) ?_
      refine lv_bipush (v := 8) G0.1 G0.2.1 dX12_areHoused_3 (by decide) ?_
      refine lv_icmp_ge (tgt := 80) G0.1 G0.2.1 dX12_areHoused_5 (by decide) (fun c_2 => ?_) (fun c_2 => ?_)
      · skip
        have tc_2 := ti_le c_2
        refine lv_iconst (v := 1) G0.1 G0.2.1 dX12_areHoused_80 (by decide) ?_
        exact py_iret G0 hr rfl hlk hw ⟨⟨by omega, by omega⟩, rfl, rfl⟩ dX12_areHoused_81
      · skip
        have tc_2 := ti_nle c_2
        refine lv_iconst (v := 0) G0.1 G0.2.1 dX12_areHoused_8 (by decide) ?_
        refine lv_istore_n (lv' := [(2, .int 0), (1, .int v_1), (0, .ref u)]) G0.1 G0.2.1 dX12_areHoused_9 rfl hl (by decide) rfl (fun ls hl => ?_)
        refine lv_iconst (v := 0) G0.1 G0.2.1 dX12_areHoused_10 (by decide) ?_
        refine lv_istore_n (lv' := [(3, .int 0), (2, .int 0), (1, .int v_1), (0, .ref u)]) G0.1 G0.2.1 dX12_areHoused_11 rfl hl (by decide) rfl (fun ls hl => ?_)
        have lo_12 : ∀ n_12 : Nat, ∀ (v_3 : Int32) (v_4 : Int32) (H_j12 : Heap) (locs : List Loc) (ls : Array Slot), (2147483647 - v_3.toInt).toNat = n_12 → (0 ≤ v_3.toInt ∧ v_3.toInt ≤ 2147483647) → py_W E (va_A (va_pl L f) s.heap.size) s L f H_j12 locs → lv_has ls 4 [(3, .int v_3), (2, .int v_4), (1, .int v_1), (0, .ref u)] → W p l e (headSpec w_X12_areHoused ({ frames := 0, cells := 0, slots := 0, locals := 0 })).room s m ([.ref u] : List Value).toArray below meth c H_j12 locs 0 0 (MQ below (py_Qi E L f s.heap.size (fun r L1 f1 => (0 ≤ r.toInt ∧ r.toInt ≤ 1) ∧ L = L1 ∧ f = f1)) ([.ref u] : List Value).toArray s 0 0 (va_A (va_pl L f) s.heap.size)) (F0 m 12 ls []) := by
          intro n_12
          induction n_12 using Nat.strongRecOn with
          | _ n_12 ih_12 =>
            intro v_3 v_4 H_j12 locs ls hn_12 bv_3 hw hl
            refine lv_iload_n G0.1 G0.2.1 dX12_areHoused_12 rfl (lv_at hl 0 rfl) ?_
            refine lv_aload_n G0.1 G0.2.1 dX12_areHoused_13 rfl (lv_at hl 3 rfl) ?_
            obtain ⟨v_5, v_6, v_7, v_8, v_9, v_10, v_11, v_12, v_13, v_14, v_15, v_16, y_17, v_18, v_19, v_20, v_21, v_22, y_23, v_24, y_25, v_26, hr_39, b_27, b_28, b_29, b_30, b_31, b_32, b_33, b_34, b_35, b_36, b_37, b_38⟩ := wg_12 hWF Tu
            refine py_get (C := RX12) (T := TX12) (N := 54) (k := 20) (v := .int v_13) G0 hw in_X12_areHoused_X12 rfl hr_39 (by decide) (by decide +kernel) rfl dX12_areHoused_14 ?_
            refine lv_icmp_ge (tgt := 48) G0.1 G0.2.1 dX12_areHoused_17 (by decide) (fun c_40 => ?_) (fun c_40 => ?_)
            · skip
              have tc_40 := ti_le c_40
              refine lv_iload_n G0.1 G0.2.1 dX12_areHoused_48 rfl (lv_at hl 1 rfl) ?_
              refine lv_iload_n G0.1 G0.2.1 dX12_areHoused_49 rfl (lv_at hl 2 rfl) ?_
              refine lv_aload_n G0.1 G0.2.1 dX12_areHoused_50 rfl (lv_at hl 3 rfl) ?_
              refine py_get (C := RX12) (T := TX12) (N := 54) (k := 19) (v := .int v_12) G0 hw in_X12_areHoused_X12 rfl hr_39 (by decide) (by decide +kernel) rfl dX12_areHoused_51 ?_
              have jn_69 : ∀ (v_41 : Int32) (H_j69 : Heap) (locs : List Loc) (ls : Array Slot), py_W E (va_A (va_pl L f) s.heap.size) s L f H_j69 locs → lv_has ls 4 [(3, .int v_3), (2, .int v_4), (1, .int v_1), (0, .ref u)] → W p l e (headSpec w_X12_areHoused ({ frames := 0, cells := 0, slots := 0, locals := 0 })).room s m ([.ref u] : List Value).toArray below meth c H_j69 locs 0 0 (MQ below (py_Qi E L f s.heap.size (fun r L1 f1 => (0 ≤ r.toInt ∧ r.toInt ≤ 1) ∧ L = L1 ∧ f = f1)) ([.ref u] : List Value).toArray s 0 0 (va_A (va_pl L f) s.heap.size)) (F0 m 69 ls [.int v_41, .int v_4]) := by
                intro v_41 H_j69 locs ls hw hl
                refine lv_icmp_le (tgt := 74) G0.1 G0.2.1 dX12_areHoused_69 (by decide) (fun c_42 => ?_) (fun c_42 => ?_)
                · skip
                  have tc_42 := ti_le c_42
                  obtain ⟨x_43, ex_43⟩ : ∃ y : Int32, y = v_1 + 1 := ⟨_, rfl⟩
                  first | have tx_43 := ti_add ex_43 (by omega) (by omega) | skip
                  refine lv_iinc (v := x_43) (lv' := [(1, .int x_43), (3, .int v_3), (2, .int v_4), (0, .ref u)]) G0.1 G0.2.1 dX12_areHoused_74 hl (k := 2) rfl (show _ + (1 : Int32) = _ from ex_43.symm) (by decide) rfl (fun ls hl => ?_)
                  refine lv_goto (tgt := 2) G0.1 G0.2.1 dX12_areHoused_77 (by decide) ?_
                  exact ih_2 ((2147483647 - x_43.toInt).toNat) (by omega) x_43 _ _ ls rfl ⟨by omega, by omega⟩ hw (lv_sub hl [0, 3] rfl)
                · skip
                  have tc_42 := ti_nle c_42
                  refine lv_iconst (v := 0) G0.1 G0.2.1 dX12_areHoused_72 (by decide) ?_
                  exact py_iret G0 hr rfl hlk hw ⟨⟨by omega, by omega⟩, rfl, rfl⟩ dX12_areHoused_73
              refine lv_icmp_ge (tgt := 68) G0.1 G0.2.1 dX12_areHoused_54 (by decide) (fun c_44 => ?_) (fun c_44 => ?_)
              · skip
                have tc_44 := ti_le c_44
                refine lv_iconst (v := 0) G0.1 G0.2.1 dX12_areHoused_68 (by decide) ?_
                exact jn_69 0 _ _ ls hw (lv_sub hl [0, 1, 2, 3] rfl)
              · skip
                have tc_44 := ti_nle c_44
                refine lv_aload_n G0.1 G0.2.1 dX12_areHoused_57 rfl (lv_at hl 3 rfl) ?_
                refine py_get (C := RX12) (T := TX12) (N := 54) (k := 17) (v := .ref (G.2 u 17)) G0 hw in_X12_areHoused_X12 rfl hr_39 (by decide) (by decide +kernel) rfl dX12_areHoused_58 ?_
                refine lv_iconst (v := 4) G0.1 G0.2.1 dX12_areHoused_61 (by decide) ?_
                refine lv_iload_n G0.1 G0.2.1 dX12_areHoused_62 rfl (lv_at hl 2 rfl) ?_
                refine lv_imul G0.1 G0.2.1 dX12_areHoused_63 ?_
                refine lv_topi (fun x_45 ex_45 => ?_)
                first | have tx_45 := ti_muld ex_45 kc4 (by omega) (by omega) | skip
                obtain ⟨g_46, ha_47, hi_48⟩ := wf_arr (n := 32) (lo := (-2147483648)) (hi := 2147483647) hWF (wt12_17 hG Tu) (by decide) (fun _ => rfl)
                have rg_49 : vp_in x_45 32 := ti_in (by omega) (by omega)
                refine py_iald G0 hw ha_47 rg_49 dX12_areHoused_64 ?_
                refine lv_topi (fun x_50 ex_50 => ?_)
                have bx_50 := wf_free x_50
                refine lv_goto (tgt := 69) G0.1 G0.2.1 dX12_areHoused_65 (by decide) ?_
                exact jn_69 x_50 _ _ ls hw (lv_sub hl [0, 1, 2, 3] rfl)
            · skip
              have tc_40 := ti_nle c_40
              refine lv_iload_n G0.1 G0.2.1 dX12_areHoused_20 rfl (lv_at hl 1 rfl) ?_
              refine lv_aload_n G0.1 G0.2.1 dX12_areHoused_21 rfl (lv_at hl 3 rfl) ?_
              refine py_get (C := RX12) (T := TX12) (N := 54) (k := 18) (v := .ref (G.2 u 18)) G0 hw in_X12_areHoused_X12 rfl hr_39 (by decide) (by decide +kernel) rfl dX12_areHoused_22 ?_
              refine lv_iconst (v := 4) G0.1 G0.2.1 dX12_areHoused_25 (by decide) ?_
              refine lv_iload_n G0.1 G0.2.1 dX12_areHoused_26 rfl (lv_at hl 0 rfl) ?_
              refine lv_imul G0.1 G0.2.1 dX12_areHoused_27 ?_
              refine lv_topi (fun x_51 ex_51 => ?_)
              first | have tx_51 := ti_muld ex_51 kc4 (by omega) (by omega) | skip
              refine lv_iconst (v := 1) G0.1 G0.2.1 dX12_areHoused_28 (by decide) ?_
              refine lv_iadd G0.1 G0.2.1 dX12_areHoused_29 ?_
              refine lv_topi (fun x_52 ex_52 => ?_)
              first | have tx_52 := ti_add ex_52 (by omega) (by omega) | skip
              obtain ⟨g_53, ha_54, hi_55⟩ := wf_arr (n := 40) (lo := (-2147483648)) (hi := 2147483647) hWF (wt12_18 hG Tu) (by decide) (fun _ => rfl)
              have rg_56 : vp_in x_52 40 := ti_in (by omega) (by omega)
              refine py_iald G0 hw ha_54 rg_56 dX12_areHoused_30 ?_
              refine lv_topi (fun x_57 ex_57 => ?_)
              have bx_57 := wf_free x_57
              refine lv_iload_n G0.1 G0.2.1 dX12_areHoused_31 rfl (lv_at hl 2 rfl) ?_
              have jn_40 : ∀ (v_58 : Int32) (H_j40 : Heap) (locs : List Loc) (ls : Array Slot), (0 ≤ v_58.toInt ∧ v_58.toInt ≤ 1) → py_W E (va_A (va_pl L f) s.heap.size) s L f H_j40 locs → lv_has ls 4 [(3, .int v_3), (2, .int v_4), (1, .int v_1), (0, .ref u)] → W p l e (headSpec w_X12_areHoused ({ frames := 0, cells := 0, slots := 0, locals := 0 })).room s m ([.ref u] : List Value).toArray below meth c H_j40 locs 0 0 (MQ below (py_Qi E L f s.heap.size (fun r L1 f1 => (0 ≤ r.toInt ∧ r.toInt ≤ 1) ∧ L = L1 ∧ f = f1)) ([.ref u] : List Value).toArray s 0 0 (va_A (va_pl L f) s.heap.size)) (F0 m 40 ls [.int v_58, .int v_4]) := by
                intro v_58 H_j40 locs ls bv_58 hw hl
                refine lv_iadd G0.1 G0.2.1 dX12_areHoused_40 ?_
                refine lv_topi (fun x_59 ex_59 => ?_)
                first | have tx_59 := ti_add ex_59 (by omega) (by omega) | skip
                refine lv_istore_n (lv' := [(2, .int x_59), (3, .int v_3), (1, .int v_1), (0, .ref u)]) G0.1 G0.2.1 dX12_areHoused_41 rfl hl (by decide) rfl (fun ls hl => ?_)
                obtain ⟨x_60, ex_60⟩ : ∃ y : Int32, y = v_3 + 1 := ⟨_, rfl⟩
                first | have tx_60 := ti_add ex_60 (by omega) (by omega) | skip
                refine lv_iinc (v := x_60) (lv' := [(3, .int x_60), (2, .int x_59), (1, .int v_1), (0, .ref u)]) G0.1 G0.2.1 dX12_areHoused_42 hl (k := 1) rfl (show _ + (1 : Int32) = _ from ex_60.symm) (by decide) rfl (fun ls hl => ?_)
                refine lv_goto (tgt := 12) G0.1 G0.2.1 dX12_areHoused_45 (by decide) ?_
                exact ih_12 ((2147483647 - x_60.toInt).toNat) (by omega) x_60 x_59 _ _ ls rfl ⟨by omega, by omega⟩ hw (lv_sub hl [0, 1, 2, 3] rfl)
              refine lv_icmp_ne (tgt := 39) G0.1 G0.2.1 dX12_areHoused_32 (by decide) (fun c_61 => ?_) (fun c_61 => ?_)
              · skip
                have tc_61 := ti_ne c_61
                refine lv_iconst (v := 0) G0.1 G0.2.1 dX12_areHoused_39 (by decide) ?_
                exact jn_40 0 _ _ ls ⟨by omega, by omega⟩ hw (lv_sub hl [0, 1, 2, 3] rfl)
              · skip
                have tc_61 := ti_eq c_61
                refine lv_iconst (v := 1) G0.1 G0.2.1 dX12_areHoused_35 (by decide) ?_
                refine lv_goto (tgt := 40) G0.1 G0.2.1 dX12_areHoused_36 (by decide) ?_
                exact jn_40 1 _ _ ls ⟨by omega, by omega⟩ hw (lv_sub hl [0, 1, 2, 3] rfl)
        exact lo_12 _ 0 0 _ _ ls rfl ⟨by omega, by omega⟩ hw (lv_sub hl [0, 1, 2, 3] rfl)
  exact lo_2 _ 0 _ _ ls rfl ⟨by omega, by omega⟩ hw (lv_sub hl [0, 1] rfl)
