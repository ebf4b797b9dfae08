theorem dX12_atEnd_0 : decode cX12_atEnd 0 = .ok (.aload_n 0, 1) := by decide +kernel
theorem dX12_atEnd_1 : decode cX12_atEnd 1 = .ok (.getfield 134, 3) := by decide +kernel
theorem dX12_atEnd_4 : decode cX12_atEnd 4 = .ok (.iconst (-1), 1) := by decide +kernel
theorem dX12_atEnd_5 : decode cX12_atEnd 5 = .ok (.if_icmp .ne 15, 3) := by decide +kernel
theorem dX12_atEnd_20 : decode cX12_atEnd 20 = .ok (.aload_n 0, 1) := by decide +kernel
theorem dX12_atEnd_21 : decode cX12_atEnd 21 = .ok (.getfield 134, 3) := by decide +kernel
theorem dX12_atEnd_24 : decode cX12_atEnd 24 = .ok (.ireturn, 1) := by decide +kernel
theorem dX12_bad_0 : decode cX12_bad 0 = .ok (.aload_n 0, 1) := by decide +kernel
theorem dX12_bad_1 : decode cX12_bad 1 = .ok (.aload_n 0, 1) := by decide +kernel
theorem dX12_bad_2 : decode cX12_bad 2 = .ok (.getfield 134, 3) := by decide +kernel
theorem dX12_bad_5 : decode cX12_bad 5 = .ok (.iconst (-1), 1) := by decide +kernel
theorem dX12_bad_6 : decode cX12_bad 6 = .ok (.if_icmp .ne 10, 3) := by decide +kernel
theorem dX12_bad_9 : decode cX12_bad 9 = .ok (.aload_n 0, 1) := by decide +kernel
theorem dX12_bad_10 : decode cX12_bad 10 = .ok (.getfield 127, 3) := by decide +kernel
theorem dX12_bad_13 : decode cX12_bad 13 = .ok (.goto 7, 3) := by decide +kernel
theorem dX12_bad_20 : decode cX12_bad 20 = .ok (.putfield 134, 3) := by decide +kernel
theorem dX12_bad_23 : decode cX12_bad 23 = .ok (.return_, 1) := by decide +kernel
theorem dX12_clause_0 : decode cX12_clause 0 = .ok (.bipush 90, 2) := by decide +kernel
theorem dX12_clause_2 : decode cX12_clause 2 = .ok (.aload_n 0, 1) := by decide +kernel
theorem dX12_clause_3 : decode cX12_clause 3 = .ok (.getfield 137, 3) := by decide +kernel
theorem dX12_clause_6 : decode cX12_clause 6 = .ok (.imul, 1) := by decide +kernel
theorem dX12_clause_7 : decode cX12_clause 7 = .ok (.aload_n 0, 1) := by decide +kernel
theorem dX12_clause_8 : decode cX12_clause 8 = .ok (.getfield 22, 3) := by decide +kernel
theorem dX12_clause_11 : decode cX12_clause 11 = .ok (.aload_n 0, 1) := by decide +kernel
theorem dX12_clause_12 : decode cX12_clause 12 = .ok (.getfield 137, 3) := by decide +kernel
theorem dX12_clause_15 : decode cX12_clause 15 = .ok (.iaload, 1) := by decide +kernel
theorem dX12_clause_16 : decode cX12_clause 16 = .ok (.iadd, 1) := by decide +kernel
theorem dX12_clause_17 : decode cX12_clause 17 = .ok (.istore_n 1, 1) := by decide +kernel
theorem dX12_clause_18 : decode cX12_clause 18 = .ok (.aload_n 0, 1) := by decide +kernel
theorem dX12_clause_19 : decode cX12_clause 19 = .ok (.getfield 134, 3) := by decide +kernel
theorem dX12_clause_22 : decode cX12_clause 22 = .ok (.iconst (-1), 1) := by decide +kernel
theorem dX12_clause_23 : decode cX12_clause 23 = .ok (.if_icmp .ne 16, 3) := by decide +kernel
theorem dX12_clause_26 : decode cX12_clause 26 = .ok (.aload_n 0, 1) := by decide +kernel
theorem dX12_clause_27 : decode cX12_clause 27 = .ok (.invokevirtual 146, 3) := by decide +kernel
theorem dX12_clause_30 : decode cX12_clause 30 = .ok (.bipush 121, 2) := by decide +kernel
theorem dX12_clause_32 : decode cX12_clause 32 = .ok (.if_icmp .eq 7, 3) := by decide +kernel
theorem dX12_clause_35 : decode cX12_clause 35 = .ok (.aload_n 0, 1) := by decide +kernel
theorem dX12_clause_36 : decode cX12_clause 36 = .ok (.invokevirtual 143, 3) := by decide +kernel
theorem dX12_clause_39 : decode cX12_clause 39 = .ok (.aload_n 0, 1) := by decide +kernel
theorem dX12_clause_40 : decode cX12_clause 40 = .ok (.dup, 1) := by decide +kernel
theorem dX12_clause_41 : decode cX12_clause 41 = .ok (.getfield 127, 3) := by decide +kernel
theorem dX12_clause_44 : decode cX12_clause 44 = .ok (.iconst 1, 1) := by decide +kernel
theorem dX12_clause_45 : decode cX12_clause 45 = .ok (.iadd, 1) := by decide +kernel
theorem dX12_clause_46 : decode cX12_clause 46 = .ok (.putfield 127, 3) := by decide +kernel
theorem dX12_clause_49 : decode cX12_clause 49 = .ok (.aload_n 0, 1) := by decide +kernel
theorem dX12_clause_50 : decode cX12_clause 50 = .ok (.getfield 134, 3) := by decide +kernel
theorem dX12_clause_53 : decode cX12_clause 53 = .ok (.iconst (-1), 1) := by decide +kernel
theorem dX12_clause_54 : decode cX12_clause 54 = .ok (.if_icmp .ne 16, 3) := by decide +kernel
theorem dX12_clause_70 : decode cX12_clause 70 = .ok (.aload_n 0, 1) := by decide +kernel
theorem dX12_clause_71 : decode cX12_clause 71 = .ok (.dup, 1) := by decide +kernel
theorem dX12_clause_72 : decode cX12_clause 72 = .ok (.getfield 127, 3) := by decide +kernel
theorem dX12_clause_75 : decode cX12_clause 75 = .ok (.iconst 1, 1) := by decide +kernel
theorem dX12_clause_76 : decode cX12_clause 76 = .ok (.iadd, 1) := by decide +kernel
theorem dX12_clause_77 : decode cX12_clause 77 = .ok (.putfield 127, 3) := by decide +kernel
theorem dX12_clause_80 : decode cX12_clause 80 = .ok (.aload_n 0, 1) := by decide +kernel
theorem dX12_clause_81 : decode cX12_clause 81 = .ok (.getfield 134, 3) := by decide +kernel
theorem dX12_clause_84 : decode cX12_clause 84 = .ok (.iconst (-1), 1) := by decide +kernel
theorem dX12_clause_85 : decode cX12_clause 85 = .ok (.if_icmp .eq 4, 3) := by decide +kernel
theorem dX12_clause_88 : decode cX12_clause 88 = .ok (.return_, 1) := by decide +kernel
theorem dX12_clauseText_0 : decode cX12_clauseText 0 = .ok (.aload_n 0, 1) := by decide +kernel
theorem dX12_clauseText_1 : decode cX12_clauseText 1 = .ok (.invokevirtual 146, 3) := by decide +kernel
theorem dX12_clauseText_4 : decode cX12_clauseText 4 = .ok (.istore_n 1, 1) := by decide +kernel
theorem dX12_clauseText_5 : decode cX12_clauseText 5 = .ok (.iload_n 1, 1) := by decide +kernel
theorem dX12_clauseText_6 : decode cX12_clauseText 6 = .ok (.bipush 108, 2) := by decide +kernel
theorem dX12_clauseText_8 : decode cX12_clauseText 8 = .ok (.if_icmp .ne 7, 3) := by decide +kernel
theorem dX12_clauseText_15 : decode cX12_clauseText 15 = .ok (.iconst 0, 1) := by decide +kernel
theorem dX12_clauseText_16 : decode cX12_clauseText 16 = .ok (.istore_n 2, 1) := by decide +kernel
theorem dX12_clauseText_17 : decode cX12_clauseText 17 = .ok (.iload_n 2, 1) := by decide +kernel
theorem dX12_clauseText_18 : decode cX12_clauseText 18 = .ok (.ifCond .ne 9, 3) := by decide +kernel
theorem dX12_clauseText_21 : decode cX12_clauseText 21 = .ok (.iload_n 1, 1) := by decide +kernel
theorem dX12_clauseText_22 : decode cX12_clauseText 22 = .ok (.bipush 107, 2) := by decide +kernel
theorem dX12_clauseText_24 : decode cX12_clauseText 24 = .ok (.if_icmp .ne 28, 3) := by decide +kernel
theorem dX12_clauseText_52 : decode cX12_clauseText 52 = .ok (.aload_n 0, 1) := by decide +kernel
theorem dX12_clauseText_53 : decode cX12_clauseText 53 = .ok (.invokevirtual 143, 3) := by decide +kernel
theorem dX12_clauseText_56 : decode cX12_clauseText 56 = .ok (.return_, 1) := by decide +kernel
theorem dX12_fault_0 : decode cX12_fault 0 = .ok (.iload_n 1, 1) := by decide +kernel
theorem dX12_fault_1 : decode cX12_fault 1 = .ok (.ifCond .ne 10, 3) := by decide +kernel
theorem dX12_fault_4 : decode cX12_fault 4 = .ok (.aload_n 0, 1) := by decide +kernel
theorem dX12_fault_5 : decode cX12_fault 5 = .ok (.invokevirtual 281, 3) := by decide +kernel
theorem dX12_fault_8 : decode cX12_fault 8 = .ok (.goto 18, 3) := by decide +kernel
theorem dX12_fault_11 : decode cX12_fault 11 = .ok (.iload_n 1, 1) := by decide +kernel
theorem dX12_fault_12 : decode cX12_fault 12 = .ok (.iconst 1, 1) := by decide +kernel
theorem dX12_fault_13 : decode cX12_fault 13 = .ok (.if_icmp .ne 11, 3) := by decide +kernel
theorem dX12_fault_16 : decode cX12_fault 16 = .ok (.aload_n 0, 1) := by decide +kernel
theorem dX12_fault_17 : decode cX12_fault 17 = .ok (.iconst 4, 1) := by decide +kernel
theorem dX12_fault_18 : decode cX12_fault 18 = .ok (.invokevirtual 284, 3) := by decide +kernel
theorem dX12_fault_21 : decode cX12_fault 21 = .ok (.goto 5, 3) := by decide +kernel
theorem dX12_fault_24 : decode cX12_fault 24 = .ok (.bipush (-2), 2) := by decide +kernel
theorem dX12_fault_26 : decode cX12_fault 26 = .ok (.ireturn, 1) := by decide +kernel
theorem dX12_here_0 : decode cX12_here 0 = .ok (.aload_n 0, 1) := by decide +kernel
theorem dX12_here_1 : decode cX12_here 1 = .ok (.getfield 127, 3) := by decide +kernel
theorem dX12_here_4 : decode cX12_here 4 = .ok (.aload_n 0, 1) := by decide +kernel
theorem dX12_here_5 : decode cX12_here 5 = .ok (.getfield 124, 3) := by decide +kernel
theorem dX12_here_8 : decode cX12_here 8 = .ok (.if_icmp .ge 15, 3) := by decide +kernel
theorem dX12_here_23 : decode cX12_here 23 = .ok (.iconst (-1), 1) := by decide +kernel
theorem dX12_here_24 : decode cX12_here 24 = .ok (.ireturn, 1) := by decide +kernel
theorem dX12_level_0 : decode cX12_level 0 = .ok (.aload_n 0, 1) := by decide +kernel
theorem dX12_level_1 : decode cX12_level 1 = .ok (.aload_n 0, 1) := by decide +kernel
theorem dX12_level_2 : decode cX12_level 2 = .ok (.iload_n 1, 1) := by decide +kernel
theorem dX12_level_3 : decode cX12_level 3 = .ok (.invokevirtual 330, 3) := by decide +kernel
theorem dX12_level_6 : decode cX12_level 6 = .ok (.ifCond .eq 17, 3) := by decide +kernel
theorem dX12_level_23 : decode cX12_level 23 = .ok (.iconst 1, 1) := by decide +kernel
theorem dX12_level_24 : decode cX12_level 24 = .ok (.putfield 117, 3) := by decide +kernel
theorem dX12_level_27 : decode cX12_level 27 = .ok (.aload_n 0, 1) := by decide +kernel
theorem dX12_level_28 : decode cX12_level 28 = .ok (.getfield 117, 3) := by decide +kernel
theorem dX12_level_31 : decode cX12_level 31 = .ok (.iconst 1, 1) := by decide +kernel
theorem dX12_level_32 : decode cX12_level 32 = .ok (.if_icmp .ne 5, 3) := by decide +kernel
theorem dX12_level_35 : decode cX12_level 35 = .ok (.iconst 0, 1) := by decide +kernel
theorem dX12_level_36 : decode cX12_level 36 = .ok (.ireturn, 1) := by decide +kernel
theorem dX12_look_0 : decode cX12_look 0 = .ok (.aload_n 0, 1) := by decide +kernel
theorem dX12_look_1 : decode cX12_look 1 = .ok (.invokevirtual 130, 3) := by decide +kernel
theorem dX12_look_4 : decode cX12_look 4 = .ok (.bipush 32, 2) := by decide +kernel
theorem dX12_look_6 : decode cX12_look 6 = .ok (.if_icmp .ne 16, 3) := by decide +kernel
theorem dX12_look_22 : decode cX12_look 22 = .ok (.aload_n 0, 1) := by decide +kernel
theorem dX12_look_23 : decode cX12_look 23 = .ok (.invokevirtual 130, 3) := by decide +kernel
theorem dX12_look_26 : decode cX12_look 26 = .ok (.ireturn, 1) := by decide +kernel
theorem dX12_open_0 : decode cX12_open 0 = .ok (.aload_n 0, 1) := by decide +kernel
theorem dX12_open_1 : decode cX12_open 1 = .ok (.iload_n 1, 1) := by decide +kernel
theorem dX12_open_2 : decode cX12_open 2 = .ok (.putfield 137, 3) := by decide +kernel
theorem dX12_open_5 : decode cX12_open 5 = .ok (.aload_n 0, 1) := by decide +kernel
theorem dX12_open_6 : decode cX12_open 6 = .ok (.iconst 0, 1) := by decide +kernel
theorem dX12_open_7 : decode cX12_open 7 = .ok (.putfield 127, 3) := by decide +kernel
theorem dX12_open_10 : decode cX12_open 10 = .ok (.aload_n 0, 1) := by decide +kernel
theorem dX12_open_11 : decode cX12_open 11 = .ok (.iconst (-1), 1) := by decide +kernel
theorem dX12_open_12 : decode cX12_open 12 = .ok (.putfield 134, 3) := by decide +kernel
theorem dX12_open_15 : decode cX12_open 15 = .ok (.aload_n 0, 1) := by decide +kernel
theorem dX12_open_16 : decode cX12_open 16 = .ok (.iconst 0, 1) := by decide +kernel
theorem dX12_open_17 : decode cX12_open 17 = .ok (.putfield 140, 3) := by decide +kernel
theorem dX12_open_20 : decode cX12_open 20 = .ok (.aload_n 0, 1) := by decide +kernel
theorem dX12_open_21 : decode cX12_open 21 = .ok (.getfield 19, 3) := by decide +kernel
theorem dX12_open_24 : decode cX12_open 24 = .ok (.iload_n 1, 1) := by decide +kernel
theorem dX12_open_25 : decode cX12_open 25 = .ok (.iconst 0, 1) := by decide +kernel
theorem dX12_open_26 : decode cX12_open 26 = .ok (.iastore, 1) := by decide +kernel
theorem dX12_open_27 : decode cX12_open 27 = .ok (.aload_n 0, 1) := by decide +kernel
theorem dX12_open_28 : decode cX12_open 28 = .ok (.getfield 22, 3) := by decide +kernel
theorem dX12_open_31 : decode cX12_open 31 = .ok (.iload_n 1, 1) := by decide +kernel
theorem dX12_open_32 : decode cX12_open 32 = .ok (.iconst 0, 1) := by decide +kernel
theorem dX12_open_33 : decode cX12_open 33 = .ok (.iastore, 1) := by decide +kernel
theorem dX12_open_34 : decode cX12_open 34 = .ok (.return_, 1) := by decide +kernel
theorem dX12_readLaw_0 : decode cX12_readLaw 0 = .ok (.aload_n 0, 1) := by decide +kernel
theorem dX12_readLaw_1 : decode cX12_readLaw 1 = .ok (.iload_n 1, 1) := by decide +kernel
theorem dX12_readLaw_2 : decode cX12_readLaw 2 = .ok (.invokevirtual 198, 3) := by decide +kernel
theorem dX12_readLaw_5 : decode cX12_readLaw 5 = .ok (.aload_n 0, 1) := by decide +kernel
theorem dX12_readLaw_6 : decode cX12_readLaw 6 = .ok (.invokevirtual 201, 3) := by decide +kernel
theorem dX12_readLaw_9 : decode cX12_readLaw 9 = .ok (.aload_n 0, 1) := by decide +kernel
theorem dX12_readLaw_10 : decode cX12_readLaw 10 = .ok (.getfield 134, 3) := by decide +kernel
theorem dX12_readLaw_13 : decode cX12_readLaw 13 = .ok (.iconst (-1), 1) := by decide +kernel
theorem dX12_readLaw_14 : decode cX12_readLaw 14 = .ok (.if_icmp .ne 29, 3) := by decide +kernel
theorem dX12_readLaw_43 : decode cX12_readLaw 43 = .ok (.aload_n 0, 1) := by decide +kernel
theorem dX12_readLaw_44 : decode cX12_readLaw 44 = .ok (.invokevirtual 204, 3) := by decide +kernel
theorem dX12_readLaw_47 : decode cX12_readLaw 47 = .ok (.ireturn, 1) := by decide +kernel
theorem dX12_readValley_0 : decode cX12_readValley 0 = .ok (.aload_n 0, 1) := by decide +kernel
theorem dX12_readValley_1 : decode cX12_readValley 1 = .ok (.iconst 0, 1) := by decide +kernel
theorem dX12_readValley_2 : decode cX12_readValley 2 = .ok (.putfield 127, 3) := by decide +kernel
theorem dX12_readValley_5 : decode cX12_readValley 5 = .ok (.aload_n 0, 1) := by decide +kernel
theorem dX12_readValley_6 : decode cX12_readValley 6 = .ok (.iconst (-1), 1) := by decide +kernel
theorem dX12_readValley_7 : decode cX12_readValley 7 = .ok (.putfield 134, 3) := by decide +kernel
theorem dX12_readValley_10 : decode cX12_readValley 10 = .ok (.aload_n 0, 1) := by decide +kernel
theorem dX12_readValley_11 : decode cX12_readValley 11 = .ok (.iconst 0, 1) := by decide +kernel
theorem dX12_readValley_12 : decode cX12_readValley 12 = .ok (.putfield 264, 3) := by decide +kernel
theorem dX12_readValley_15 : decode cX12_readValley 15 = .ok (.aload_n 0, 1) := by decide +kernel
theorem dX12_readValley_16 : decode cX12_readValley 16 = .ok (.iconst 0, 1) := by decide +kernel
theorem dX12_readValley_17 : decode cX12_readValley 17 = .ok (.putfield 267, 3) := by decide +kernel
theorem dX12_readValley_20 : decode cX12_readValley 20 = .ok (.iconst 1, 1) := by decide +kernel
theorem dX12_readValley_21 : decode cX12_readValley 21 = .ok (.istore_n 1, 1) := by decide +kernel
theorem dX12_readValley_22 : decode cX12_readValley 22 = .ok (.iload_n 1, 1) := by decide +kernel
theorem dX12_readValley_23 : decode cX12_readValley 23 = .ok (.ifCond .eq 59, 3) := by decide +kernel
theorem dX12_readValley_26 : decode cX12_readValley 26 = .ok (.aload_n 0, 1) := by decide +kernel
theorem dX12_readValley_27 : decode cX12_readValley 27 = .ok (.getfield 134, 3) := by decide +kernel
theorem dX12_readValley_30 : decode cX12_readValley 30 = .ok (.iconst (-1), 1) := by decide +kernel
theorem dX12_readValley_31 : decode cX12_readValley 31 = .ok (.if_icmp .ne 51, 3) := by decide +kernel
theorem dX12_readValley_34 : decode cX12_readValley 34 = .ok (.aload_n 0, 1) := by decide +kernel
theorem dX12_readValley_35 : decode cX12_readValley 35 = .ok (.invokevirtual 274, 3) := by decide +kernel
theorem dX12_readValley_38 : decode cX12_readValley 38 = .ok (.aload_n 0, 1) := by decide +kernel
theorem dX12_readValley_39 : decode cX12_readValley 39 = .ok (.getfield 134, 3) := by decide +kernel
theorem dX12_readValley_42 : decode cX12_readValley 42 = .ok (.iconst (-1), 1) := by decide +kernel
theorem dX12_readValley_43 : decode cX12_readValley 43 = .ok (.if_icmp .ne 16, 3) := by decide +kernel
theorem dX12_readValley_59 : decode cX12_readValley 59 = .ok (.iconst 0, 1) := by decide +kernel
theorem dX12_readValley_60 : decode cX12_readValley 60 = .ok (.istore_n 1, 1) := by decide +kernel
theorem dX12_readValley_61 : decode cX12_readValley 61 = .ok (.aload_n 0, 1) := by decide +kernel
theorem dX12_readValley_62 : decode cX12_readValley 62 = .ok (.dup, 1) := by decide +kernel
theorem dX12_readValley_63 : decode cX12_readValley 63 = .ok (.getfield 127, 3) := by decide +kernel
theorem dX12_readValley_66 : decode cX12_readValley 66 = .ok (.iload_n 1, 1) := by decide +kernel
theorem dX12_readValley_67 : decode cX12_readValley 67 = .ok (.ifCond .eq 7, 3) := by decide +kernel
theorem dX12_readValley_74 : decode cX12_readValley 74 = .ok (.iconst 0, 1) := by decide +kernel
theorem dX12_readValley_75 : decode cX12_readValley 75 = .ok (.iadd, 1) := by decide +kernel
theorem dX12_readValley_76 : decode cX12_readValley 76 = .ok (.putfield 127, 3) := by decide +kernel
theorem dX12_readValley_79 : decode cX12_readValley 79 = .ok (.goto (-57), 3) := by decide +kernel
theorem dX12_readValley_82 : decode cX12_readValley 82 = .ok (.aload_n 0, 1) := by decide +kernel
theorem dX12_readValley_83 : decode cX12_readValley 83 = .ok (.getfield 134, 3) := by decide +kernel
theorem dX12_readValley_86 : decode cX12_readValley 86 = .ok (.iconst (-1), 1) := by decide +kernel
theorem dX12_readValley_87 : decode cX12_readValley 87 = .ok (.if_icmp .ne 37, 3) := by decide +kernel
theorem dX12_readValley_124 : decode cX12_readValley 124 = .ok (.aload_n 0, 1) := by decide +kernel
theorem dX12_readValley_125 : decode cX12_readValley 125 = .ok (.getfield 134, 3) := by decide +kernel
theorem dX12_readValley_128 : decode cX12_readValley 128 = .ok (.ireturn, 1) := by decide +kernel
theorem dX12_text_0 : decode cX12_text 0 = .ok (.iload_n 1, 1) := by decide +kernel
theorem dX12_text_1 : decode cX12_text 1 = .ok (.ifCond .ne 21, 3) := by decide +kernel
theorem dX12_text_4 : decode cX12_text 4 = .ok (.aload_n 0, 1) := by decide +kernel
theorem dX12_text_5 : decode cX12_text 5 = .ok (.invokevirtual 281, 3) := by decide +kernel
theorem dX12_text_8 : decode cX12_text 8 = .ok (.iconst (-1), 1) := by decide +kernel
theorem dX12_text_9 : decode cX12_text 9 = .ok (.if_icmp .ne 13, 3) := by decide +kernel
theorem dX12_text_22 : decode cX12_text 22 = .ok (.iload_n 1, 1) := by decide +kernel
theorem dX12_text_23 : decode cX12_text 23 = .ok (.iconst 1, 1) := by decide +kernel
theorem dX12_text_24 : decode cX12_text 24 = .ok (.if_icmp .ne 45, 3) := by decide +kernel
theorem dX12_text_27 : decode cX12_text 27 = .ok (.aload_n 0, 1) := by decide +kernel
theorem dX12_text_28 : decode cX12_text 28 = .ok (.getfield 322, 3) := by decide +kernel
theorem dX12_text_31 : decode cX12_text 31 = .ok (.iconst 4, 1) := by decide +kernel
theorem dX12_text_32 : decode cX12_text 32 = .ok (.if_icmp .ge 37, 3) := by decide +kernel
theorem dX12_text_35 : decode cX12_text 35 = .ok (.aload_n 0, 1) := by decide +kernel
theorem dX12_text_36 : decode cX12_text 36 = .ok (.aload_n 0, 1) := by decide +kernel
theorem dX12_text_37 : decode cX12_text 37 = .ok (.getfield 322, 3) := by decide +kernel
theorem dX12_text_40 : decode cX12_text 40 = .ok (.invokevirtual 284, 3) := by decide +kernel
theorem dX12_text_43 : decode cX12_text 43 = .ok (.iconst (-1), 1) := by decide +kernel
theorem dX12_text_44 : decode cX12_text 44 = .ok (.if_icmp .ne 25, 3) := by decide +kernel
theorem dX12_text_69 : decode cX12_text 69 = .ok (.iconst (-1), 1) := by decide +kernel
theorem dX12_text_70 : decode cX12_text 70 = .ok (.ireturn, 1) := by decide +kernel
theorem dX12_thrown_0 : decode cX12_thrown 0 = .ok (.aload_n 0, 1) := by decide +kernel
theorem dX12_thrown_1 : decode cX12_thrown 1 = .ok (.getfield 117, 3) := by decide +kernel
theorem dX12_thrown_4 : decode cX12_thrown 4 = .ok (.ireturn, 1) := by decide +kernel
def w_X12_here : List Cond := .code yX12_here cX12_here 1 (some .int) :: ([Cond.fieldLink RX12 127 "HeadYearModel" "at" "I", Cond.fieldLink RX12 124 "HeadYearModel" "size" "I"] ++ (u_ws RX12 TX12 54 ++ ([])))
theorem in_X12_here_X12 : ∀ w ∈ u_ws RX12 TX12 54, w ∈ w_X12_here := fun _ h => List.mem_cons_of_mem _ (List.mem_append_right _ (List.mem_append_left _ h))
set_option maxHeartbeats 4000000 in
set_option maxRecDepth 100000 in
theorem c_X12_here (l : Launch) (E : py_E) (L : List Nat) (f : py_F) (sz : Nat) (h : Nat) (xs : List Value) (hh : py_at L f h (.inr (12, xs))) (hxs : xs.length = 54) (hp2 : xs[2]? = some (.int 0)) (hp3 : xs[3]? = some (.int 0)) : Met l yX12_here w_X12_here ({ frames := 0, cells := 0, slots := 0, locals := 0 }) (py_Pc E [.ref h] L f sz) (py_Qi E L f sz (fun r L1 f1 => r = -1 ∧ L = L1 ∧ f = f1)) 0 0 (va_A (va_pl L f) sz) := by
  refine Met.ofW (cc := cX12_here) (maxL := 1) (ret := (some .int)) (by decide) rfl ?_
  intro p e s m args below meth c s₁ B hml hv
  obtain ⟨rfl, rfl, hw⟩ := py_start hv
  have G : CallFix p m c cX12_here 1 s _ w_X12_here RX12 := ⟨B.exec, B.bytes, hml, findClass_of_methodNamed B.named, atoms_spec (ws := w_X12_here) B.pre⟩
  have hr := B.returns
  have hlk := B.notSynchronized
  have hl := lv_entry ([.ref h]) (n := 1) (Nat.le_of_ble_eq_true rfl)
  rw [lg_entry_eq]
  generalize (lg_sl ([.ref h]) ++ List.replicate (1 - (lg_sl ([.ref h])).length) Slot.unset).toArray = ls at hl ⊢
  have hl : lv_has ls 1 [(0, .ref h)] := hl
  refine lv_aload_n G.1 G.2.1 dX12_here_0 rfl (lv_at hl 0 rfl) ?_
  refine py_get (C := RX12) (T := TX12) (N := 54) (k := 3) (v := .int 0) G hw in_X12_here_X12 rfl hh (by decide) (by decide +kernel) hp3 dX12_here_1 ?_
  refine lv_aload_n G.1 G.2.1 dX12_here_4 rfl (lv_at hl 0 rfl) ?_
  refine py_get (C := RX12) (T := TX12) (N := 54) (k := 2) (v := .int 0) G hw in_X12_here_X12 rfl hh (by decide) (by decide +kernel) hp2 dX12_here_5 ?_
  refine lv_icmp_ge (tgt := 23) G.1 G.2.1 dX12_here_8 (by decide) (fun c_1 => ?_) (fun c_1 => ?_)
  · skip
    refine lv_iconst (v := (-1)) G.1 G.2.1 dX12_here_23 (by decide) ?_
    exact py_iret G hr rfl hlk hw ⟨rfl, rfl, rfl⟩ dX12_here_24
  · skip
    exact absurd c_1 (by decide)

def w_X12_look : List Cond := .code yX12_look cX12_look 1 (some .int) :: ([Cond.methodLink RX12 130 yX12_here, Cond.instanceMethod yX12_here, Cond.selects RX12 yX12_here yX12_here, Cond.initialized RX12] ++ (w_X12_here ++ ([])))
theorem gg_X12_look_X12_here : GoodIn w_X12_look w_X12_here := goodIn_sub (fun _ h => List.mem_cons_of_mem _ (List.mem_append_right _ (List.mem_append_left _ h))) (by decide +kernel)
theorem g_X12_look_X12_here_130 : GoodIn w_X12_look (wsV RX12 130 RX12 yX12_here w_X12_here) := goodIn_app (goodIn_of _ (by decide +kernel)) gg_X12_look_X12_here
set_option maxHeartbeats 4000000 in
set_option maxRecDepth 100000 in
theorem c_X12_look (l : Launch) (E : py_E) (L : List Nat) (f : py_F) (sz : Nat) (h : Nat) (xs : List Value) (hh : py_at L f h (.inr (12, xs))) (hxs : xs.length = 54) (hp2 : xs[2]? = some (.int 0)) (hp3 : xs[3]? = some (.int 0)) : Met l yX12_look w_X12_look ({ frames := 1, cells := 0, slots := 0, locals := 20 }) (py_Pc E [.ref h] L f sz) (py_Qi E L f sz (fun r L1 f1 => r = -1 ∧ L = L1 ∧ f = f1)) 0 0 (va_A (va_pl L f) sz) := by
  refine Met.ofW (cc := cX12_look) (maxL := 1) (ret := (some .int)) (by decide) rfl ?_
  intro p e s m args below meth c s₁ B hml hv
  obtain ⟨rfl, rfl, hw⟩ := py_start hv
  have G : CallFix p m c cX12_look 1 s _ w_X12_look RX12 := ⟨B.exec, B.bytes, hml, findClass_of_methodNamed B.named, atoms_spec (ws := w_X12_look) B.pre⟩
  have hr := B.returns
  have hlk := B.notSynchronized
  have hl := lv_entry ([.ref h]) (n := 1) (Nat.le_of_ble_eq_true rfl)
  rw [lg_entry_eq]
  generalize (lg_sl ([.ref h]) ++ List.replicate (1 - (lg_sl ([.ref h])).length) Slot.unset).toArray = ls at hl ⊢
  have hl : lv_has ls 1 [(0, .ref h)] := hl
  refine lv_aload_n G.1 G.2.1 dX12_look_0 rfl (lv_at hl 0 rfl) ?_
  refine py_calli hw (va_runV (As := []) (rest := []) G (c_X12_here l E L f s.heap.size h xs hh hxs hp2 hp3) (cwV 0 G.2.2.2.2 g_X12_look_X12_here_130 rfl rfl rfl (by decide +kernel) ⟨(Nat.le_of_ble_eq_true rfl), (Nat.le_of_ble_eq_true rfl)⟩) (py_preV hw (C := RX12) (T := TX12) (N := 54) rfl hh) rfl rfl hl.1 rfl (lv_room (Nat.le_of_ble_eq_true rfl)) dX12_look_1 ⟨(Nat.le_of_ble_eq_true rfl), (Nat.le_of_ble_eq_true rfl)⟩) (fun r_5 L_1 f_2 H_3 locs hp_4 hw => ?_)
  obtain ⟨rfl, rfl, rfl⟩ := hp_4
  refine lv_bipush (v := 32) G.1 G.2.1 dX12_look_4 (by decide) ?_
  refine lv_icmp_ne (tgt := 22) G.1 G.2.1 dX12_look_6 (by decide) (fun c_6 => ?_) (fun c_6 => ?_)
  · skip
    refine lv_aload_n G.1 G.2.1 dX12_look_22 rfl (lv_at hl 0 rfl) ?_
    refine py_calli hw (va_runV (As := []) (rest := []) G (c_X12_here l E L f H_3.size h xs hh hxs hp2 hp3) (cwV 0 G.2.2.2.2 g_X12_look_X12_here_130 rfl rfl rfl (by decide +kernel) ⟨(Nat.le_of_ble_eq_true rfl), (Nat.le_of_ble_eq_true rfl)⟩) (py_preV hw (C := RX12) (T := TX12) (N := 54) rfl hh) rfl rfl hl.1 rfl (lv_room (Nat.le_of_ble_eq_true rfl)) dX12_look_23 ⟨(Nat.le_of_ble_eq_true rfl), (Nat.le_of_ble_eq_true rfl)⟩) (fun r_11 L_7 f_8 H_9 locs hp_10 hw => ?_)
    obtain ⟨rfl, rfl, rfl⟩ := hp_10
    exact py_iret G hr rfl hlk hw ⟨rfl, rfl, rfl⟩ dX12_look_26
  · skip
    exact absurd c_6 (by decide)

def w_X12_bad : List Cond := .code yX12_bad cX12_bad 1 none :: ([Cond.fieldLink RX12 134 "HeadYearModel" "wrong" "I", Cond.fieldLink RX12 127 "HeadYearModel" "at" "I"] ++ (u_ws RX12 TX12 54 ++ ([])))
theorem in_X12_bad_X12 : ∀ w ∈ u_ws RX12 TX12 54, w ∈ w_X12_bad := fun _ h => List.mem_cons_of_mem _ (List.mem_append_right _ (List.mem_append_left _ h))
set_option maxHeartbeats 4000000 in
set_option maxRecDepth 100000 in
theorem c_X12_bad (l : Launch) (E : py_E) (L : List Nat) (f : py_F) (sz : Nat) (h : Nat) (xs : List Value) (hh : py_at L f h (.inr (12, xs))) (hxs : xs.length = 54) (hp3 : xs[3]? = some (.int 0)) (hp4 : xs[4]? = some (.int (-1))) : Met l yX12_bad w_X12_bad ({ frames := 0, cells := 0, slots := 0, locals := 0 }) (py_Pc E [.ref h] L f sz) (py_Qv E L f sz (fun L1 f1 => ∃ ys : List Value, py_at L1 f1 h (.inr (12, ys)) ∧ ys.length = 54 ∧ (ys[4]? = some (.int 0) ∧ ∀ k : Nat, k ≠ 4 → ys[k]? = xs[k]?) ∧ py_ext L f L1 f1 h)) 0 0 (va_A (va_pl L f) sz) := by
  refine Met.ofW (cc := cX12_bad) (maxL := 1) (ret := none) (by decide) rfl ?_
  intro p e s m args below meth c s₁ B hml hv
  obtain ⟨rfl, rfl, hw⟩ := py_start hv
  have G : CallFix p m c cX12_bad 1 s _ w_X12_bad RX12 := ⟨B.exec, B.bytes, hml, findClass_of_methodNamed B.named, atoms_spec (ws := w_X12_bad) B.pre⟩
  have hr := B.returns
  have hlk := B.notSynchronized
  have hl := lv_entry ([.ref h]) (n := 1) (Nat.le_of_ble_eq_true rfl)
  rw [lg_entry_eq]
  generalize (lg_sl ([.ref h]) ++ List.replicate (1 - (lg_sl ([.ref h])).length) Slot.unset).toArray = ls at hl ⊢
  have hl : lv_has ls 1 [(0, .ref h)] := hl
  refine lv_aload_n G.1 G.2.1 dX12_bad_0 rfl (lv_at hl 0 rfl) ?_
  refine lv_aload_n G.1 G.2.1 dX12_bad_1 rfl (lv_at hl 0 rfl) ?_
  refine py_get (C := RX12) (T := TX12) (N := 54) (k := 4) (v := .int (-1)) G hw in_X12_bad_X12 rfl hh (by decide) (by decide +kernel) hp4 dX12_bad_2 ?_
  refine lv_iconst (v := (-1)) G.1 G.2.1 dX12_bad_5 (by decide) ?_
  refine lv_icmp_ne (tgt := 16) G.1 G.2.1 dX12_bad_6 (by decide) (fun c_1 => ?_) (fun c_1 => ?_)
  · skip
    exact absurd c_1 (by decide)
  · skip
    refine lv_aload_n G.1 G.2.1 dX12_bad_9 rfl (lv_at hl 0 rfl) ?_
    refine py_get (C := RX12) (T := TX12) (N := 54) (k := 3) (v := .int 0) G hw in_X12_bad_X12 rfl hh (by decide) (by decide +kernel) hp3 dX12_bad_10 ?_
    refine lv_goto (tgt := 20) G.1 G.2.1 dX12_bad_13 (by decide) ?_
    refine py_put (C := RX12) (T := TX12) (N := 54) (k := 4) (v := .int 0) (fs' := xs.set 4 (.int 0)) (ty0 := tyX12) G hw tyX12_ok nmX12 in_X12_bad_X12 rfl hh (by decide) (by decide +kernel) rfl rfl rfl rfl (py_len hxs (by decide)) rfl dX12_bad_20 (fun f_2 H_3 locs h_4 x_5 hw => ?_)
    obtain ⟨xs_6, exs_6⟩ : ∃ y, y = xs.set 4 (.int 0) := ⟨_, rfl⟩
    rw [← exs_6] at h_4
    have hl_7 : xs_6.length = 54 := by rw [exs_6, List.length_set]; exact hxs
    have hp_8 : xs_6[3]? = some (.int 0) := by rw [exs_6, List.getElem?_set_ne (by decide)]; exact hp3
    have hp_9 : xs_6[4]? = some (.int 0) := by rw [exs_6, List.getElem?_set_self (by rw [hxs]; decide)]
    have xt_10 : py_ext L f L f_2 h := fun b hb hn => by
      obtain ⟨m1, e1⟩ := x_5 b hb hn
      exact ⟨m1, e1.trans (rfl)⟩
    exact py_vret G hr hlk hw ⟨_, h_4, hl_7, ⟨hp_9, fun k hk => by rw [exs_6, List.getElem?_set_ne (Ne.symm hk)]⟩, xt_10⟩ dX12_bad_23

def w_X12_clauseText : List Cond := .code yX12_clauseText cX12_clauseText 3 none :: ([Cond.methodLink RX12 146 yX12_look, Cond.instanceMethod yX12_look, Cond.selects RX12 yX12_look yX12_look, Cond.initialized RX12, Cond.methodLink RX12 143 yX12_bad, Cond.instanceMethod yX12_bad, Cond.selects RX12 yX12_bad yX12_bad] ++ (w_X12_look ++ (w_X12_bad ++ ([]))))
theorem gg_X12_clauseText_X12_look : GoodIn w_X12_clauseText w_X12_look := goodIn_sub (fun _ h => List.mem_cons_of_mem _ (List.mem_append_right _ (List.mem_append_left _ h))) (by decide +kernel)
theorem gg_X12_clauseText_X12_bad : GoodIn w_X12_clauseText w_X12_bad := goodIn_sub (fun _ h => List.mem_cons_of_mem _ (List.mem_append_right _ (List.mem_append_right _ (List.mem_append_left _ h)))) (by decide +kernel)
theorem g_X12_clauseText_X12_bad_143 : GoodIn w_X12_clauseText (wsV RX12 143 RX12 yX12_bad w_X12_bad) := goodIn_app (goodIn_of _ (by decide +kernel)) gg_X12_clauseText_X12_bad
theorem g_X12_clauseText_X12_look_146 : GoodIn w_X12_clauseText (wsV RX12 146 RX12 yX12_look w_X12_look) := goodIn_app (goodIn_of _ (by decide +kernel)) gg_X12_clauseText_X12_look
set_option maxHeartbeats 4000000 in
set_option maxRecDepth 100000 in
theorem c_X12_clauseText (l : Launch) (E : py_E) (L : List Nat) (f : py_F) (sz : Nat) (h : Nat) (xs : List Value) (hh : py_at L f h (.inr (12, xs))) (hxs : xs.length = 54) (hp2 : xs[2]? = some (.int 0)) (hp3 : xs[3]? = some (.int 0)) (hp4 : xs[4]? = some (.int (-1))) : Met l yX12_clauseText w_X12_clauseText ({ frames := 2, cells := 0, slots := 0, locals := 40 }) (py_Pc E [.ref h] L f sz) (py_Qv E L f sz (fun L1 f1 => ∃ ys : List Value, py_at L1 f1 h (.inr (12, ys)) ∧ ys.length = 54 ∧ (ys[4]? = some (.int 0) ∧ ∀ k : Nat, k ≠ 4 → ys[k]? = xs[k]?) ∧ py_ext L f L1 f1 h)) 0 0 (va_A (va_pl L f) sz) := by
  refine Met.ofW (cc := cX12_clauseText) (maxL := 3) (ret := none) (by decide) rfl ?_
  intro p e s m args below meth c s₁ B hml hv
  obtain ⟨rfl, rfl, hw⟩ := py_start hv
  have G : CallFix p m c cX12_clauseText 3 s _ w_X12_clauseText RX12 := ⟨B.exec, B.bytes, hml, findClass_of_methodNamed B.named, atoms_spec (ws := w_X12_clauseText) B.pre⟩
  have hr := B.returns
  have hlk := B.notSynchronized
  have hl := lv_entry ([.ref h]) (n := 3) (Nat.le_of_ble_eq_true rfl)
  rw [lg_entry_eq]
  generalize (lg_sl ([.ref h]) ++ List.replicate (3 - (lg_sl ([.ref h])).length) Slot.unset).toArray = ls at hl ⊢
  have hl : lv_has ls 3 [(0, .ref h)] := hl
  refine lv_aload_n G.1 G.2.1 dX12_clauseText_0 rfl (lv_at hl 0 rfl) ?_
  refine py_calli hw (va_runV (As := []) (rest := []) G (c_X12_look l E L f s.heap.size h xs hh hxs hp2 hp3) (cwV 0 G.2.2.2.2 g_X12_clauseText_X12_look_146 rfl rfl rfl (by decide +kernel) ⟨(Nat.le_of_ble_eq_true rfl), (Nat.le_of_ble_eq_true rfl)⟩) (py_preV hw (C := RX12) (T := TX12) (N := 54) rfl hh) rfl rfl hl.1 rfl (lv_room (Nat.le_of_ble_eq_true rfl)) dX12_clauseText_1 ⟨(Nat.le_of_ble_eq_true rfl), (Nat.le_of_ble_eq_true rfl)⟩) (fun r_5 L_1 f_2 H_3 locs hp_4 hw => ?_)
  obtain ⟨rfl, rfl, rfl⟩ := hp_4
  refine lv_istore_n (lv' := [(1, .int (-1)), (0, .ref h)]) G.1 G.2.1 dX12_clauseText_4 rfl hl (by decide) rfl (fun ls hl => ?_)
  refine lv_iload_n G.1 G.2.1 dX12_clauseText_5 rfl (lv_at hl 0 rfl) ?_
  refine lv_bipush (v := 108) G.1 G.2.1 dX12_clauseText_6 (by decide) ?_
  refine lv_icmp_ne (tgt := 15) G.1 G.2.1 dX12_clauseText_8 (by decide) (fun c_6 => ?_) (fun c_6 => ?_)
  · skip
    refine lv_iconst (v := 0) G.1 G.2.1 dX12_clauseText_15 (by decide) ?_
    refine lv_istore_n (lv' := [(2, .int 0), (1, .int (-1)), (0, .ref h)]) G.1 G.2.1 dX12_clauseText_16 rfl hl (by decide) rfl (fun ls hl => ?_)
    refine lv_iload_n G.1 G.2.1 dX12_clauseText_17 rfl (lv_at hl 0 rfl) ?_
    refine lv_if_ne (tgt := 27) G.1 G.2.1 dX12_clauseText_18 (by decide) (fun c_7 => ?_) (fun c_7 => ?_)
    · skip
      exact absurd c_7 (by decide)
    · skip
      refine lv_iload_n G.1 G.2.1 dX12_clauseText_21 rfl (lv_at hl 1 rfl) ?_
      refine lv_bipush (v := 107) G.1 G.2.1 dX12_clauseText_22 (by decide) ?_
      refine lv_icmp_ne (tgt := 52) G.1 G.2.1 dX12_clauseText_24 (by decide) (fun c_8 => ?_) (fun c_8 => ?_)
      · skip
        refine lv_aload_n G.1 G.2.1 dX12_clauseText_52 rfl (lv_at hl 2 rfl) ?_
        refine py_callv hw (va_runV (As := []) (rest := []) G (c_X12_bad l E L f H_3.size h xs hh hxs hp3 hp4) (cwV 0 G.2.2.2.2 g_X12_clauseText_X12_bad_143 rfl rfl rfl (by decide +kernel) ⟨(Nat.le_of_ble_eq_true rfl), (Nat.le_of_ble_eq_true rfl)⟩) (py_preV hw (C := RX12) (T := TX12) (N := 54) rfl hh) rfl rfl hl.1 rfl (lv_room (Nat.le_of_ble_eq_true rfl)) dX12_clauseText_53 ⟨(Nat.le_of_ble_eq_true rfl), (Nat.le_of_ble_eq_true rfl)⟩) (fun L_9 f_10 H_11 locs hp_12 hw => ?_)
        obtain ⟨xs_14, h_15, hl_16, hk_17, x_18⟩ := hp_12
        have hp_20 : xs_14[2]? = some (.int 0) := (hk_17.2 2 (by decide)).trans hp2
        have hp_21 : xs_14[3]? = some (.int 0) := (hk_17.2 3 (by decide)).trans hp3
        have xt_22 : py_ext L f L_9 f_10 h := fun b hb hn => by
          obtain ⟨m1, e1⟩ := x_18 b hb hn
          exact ⟨m1, e1.trans (rfl)⟩
        exact py_vret G hr hlk hw ⟨_, h_15, hl_16, hk_17, xt_22⟩ dX12_clauseText_56
      · skip
        exact absurd c_8 (by decide)
  · skip
    exact absurd c_6 (by decide)

def w_X12_readValley : List Cond := .code yX12_readValley cX12_readValley 2 (some .int) :: ([Cond.fieldLink RX12 127 "HeadYearModel" "at" "I", Cond.fieldLink RX12 134 "HeadYearModel" "wrong" "I", Cond.fieldLink RX12 264 "HeadYearModel" "readLevels" "I", Cond.fieldLink RX12 267 "HeadYearModel" "readFamilies" "I", Cond.methodLink RX12 274 yX12_clauseText, Cond.instanceMethod yX12_clauseText, Cond.selects RX12 yX12_clauseText yX12_clauseText, Cond.initialized RX12] ++ (u_ws RX12 TX12 54 ++ (w_X12_clauseText ++ ([]))))
theorem in_X12_readValley_X12 : ∀ w ∈ u_ws RX12 TX12 54, w ∈ w_X12_readValley := fun _ h => List.mem_cons_of_mem _ (List.mem_append_right _ (List.mem_append_left _ h))
theorem gg_X12_readValley_X12_clauseText : GoodIn w_X12_readValley w_X12_clauseText := goodIn_sub (fun _ h => List.mem_cons_of_mem _ (List.mem_append_right _ (List.mem_append_right _ (List.mem_append_left _ h)))) (by decide +kernel)
theorem g_X12_readValley_X12_clauseText_274 : GoodIn w_X12_readValley (wsV RX12 274 RX12 yX12_clauseText w_X12_clauseText) := goodIn_app (goodIn_of _ (by decide +kernel)) gg_X12_readValley_X12_clauseText
set_option maxHeartbeats 4000000 in
set_option maxRecDepth 100000 in
theorem c_X12_readValley (l : Launch) (E : py_E) (L : List Nat) (f : py_F) (sz : Nat) (h : Nat) (hM : fr_M E L f h) : Met l yX12_readValley w_X12_readValley ({ frames := 3, cells := 0, slots := 0, locals := 62 }) (py_Pc E [.ref h] L f sz) (py_Qi E L f sz (fun r _ _ => r = 0)) 0 0 (va_A (va_pl L f) sz) := by
  refine Met.ofW (cc := cX12_readValley) (maxL := 2) (ret := (some .int)) (by decide) rfl ?_
  intro p e s m args below meth c s₁ B hml hv
  obtain ⟨rfl, rfl, hw⟩ := py_start hv
  have G : CallFix p m c cX12_readValley 2 s _ w_X12_readValley RX12 := ⟨B.exec, B.bytes, hml, findClass_of_methodNamed B.named, atoms_spec (ws := w_X12_readValley) B.pre⟩
  have hr := B.returns
  have hlk := B.notSynchronized
  have hl := lv_entry ([.ref h]) (n := 2) (Nat.le_of_ble_eq_true rfl)
  rw [lg_entry_eq]
  generalize (lg_sl ([.ref h]) ++ List.replicate (2 - (lg_sl ([.ref h])).length) Slot.unset).toArray = ls at hl ⊢
  have hl : lv_has ls 2 [(0, .ref h)] := hl
  obtain ⟨tp, cd, cl, g1, g2, g3, xs, v32, v33, v34, hh, hxs, hp1, hp2, hp8, hp9, hp13, hp24, hp25, hp29, hp31, hp43, hp53, ⟨hp32, hp33, hp34⟩, htp, hcd, hcl⟩ := id hM
  refine lv_aload_n G.1 G.2.1 dX12_readValley_0 rfl (lv_at hl 0 rfl) ?_
  refine lv_iconst (v := 0) G.1 G.2.1 dX12_readValley_1 (by decide) ?_
  refine py_put (C := RX12) (T := TX12) (N := 54) (k := 3) (v := .int 0) (fs' := xs.set 3 (.int 0)) (ty0 := tyX12) G hw tyX12_ok nmX12 in_X12_readValley_X12 rfl hh (by decide) (by decide +kernel) rfl rfl rfl rfl (py_len hxs (by decide)) rfl dX12_readValley_2 (fun f_1 H_2 locs h_3 x_4 hw => ?_)
  obtain ⟨xs_5, exs_5⟩ : ∃ y, y = xs.set 3 (.int 0) := ⟨_, rfl⟩
  rw [← exs_5] at h_3
  have hl_6 : xs_5.length = 54 := by rw [exs_5, List.length_set]; exact hxs
  have hp_7 : xs_5[1]? = some (.ref tp) := by rw [exs_5, List.getElem?_set_ne (by decide)]; exact hp1
  have hp_8 : xs_5[2]? = some (.int 0) := by rw [exs_5, List.getElem?_set_ne (by decide)]; exact hp2
  have hp_9 : xs_5[8]? = some (.ref cd) := by rw [exs_5, List.getElem?_set_ne (by decide)]; exact hp8
  have hp_10 : xs_5[9]? = some (.ref cl) := by rw [exs_5, List.getElem?_set_ne (by decide)]; exact hp9
  have hp_11 : xs_5[13]? = some (.int 0) := by rw [exs_5, List.getElem?_set_ne (by decide)]; exact hp13
  have hp_12 : xs_5[24]? = some (.int 0) := by rw [exs_5, List.getElem?_set_ne (by decide)]; exact hp24
  have hp_13 : xs_5[25]? = some (.int 0) := by rw [exs_5, List.getElem?_set_ne (by decide)]; exact hp25
  have hp_14 : xs_5[29]? = some (.int 0) := by rw [exs_5, List.getElem?_set_ne (by decide)]; exact hp29
  have hp_15 : xs_5[31]? = some (.int (-1)) := by rw [exs_5, List.getElem?_set_ne (by decide)]; exact hp31
  have hp_16 : xs_5[43]? = some (.int 0) := by rw [exs_5, List.getElem?_set_ne (by decide)]; exact hp43
  have hp_17 : xs_5[53]? = some (.int 0) := by rw [exs_5, List.getElem?_set_ne (by decide)]; exact hp53
  have hp_18 : xs_5[32]? = some (.int v32) := by rw [exs_5, List.getElem?_set_ne (by decide)]; exact hp32
  have hp_19 : xs_5[33]? = some (.int v33) := by rw [exs_5, List.getElem?_set_ne (by decide)]; exact hp33
  have hp_20 : xs_5[34]? = some (.int v34) := by rw [exs_5, List.getElem?_set_ne (by decide)]; exact hp34
  have hp_21 : xs_5[3]? = some (.int 0) := by rw [exs_5, List.getElem?_set_self (by rw [hxs]; decide)]
  have htp := htp.ext x_4 (Ne.symm (py_ne_arr hh htp))
  have hcd := hcd.ext x_4 (Ne.symm (py_ne_arr hh hcd))
  have hcl := hcl.ext x_4 (Ne.symm (py_ne_arr hh hcl))
  refine lv_aload_n G.1 G.2.1 dX12_readValley_5 rfl (lv_at hl 0 rfl) ?_
  refine lv_iconst (v := (-1)) G.1 G.2.1 dX12_readValley_6 (by decide) ?_
  refine py_put (C := RX12) (T := TX12) (N := 54) (k := 4) (v := .int (-1)) (fs' := xs_5.set 4 (.int (-1))) (ty0 := tyX12) G hw tyX12_ok nmX12 in_X12_readValley_X12 rfl h_3 (by decide) (by decide +kernel) rfl rfl rfl rfl (py_len hl_6 (by decide)) rfl dX12_readValley_7 (fun f_22 H_23 locs h_24 x_25 hw => ?_)
  obtain ⟨xs_26, exs_26⟩ : ∃ y, y = xs_5.set 4 (.int (-1)) := ⟨_, rfl⟩
  rw [← exs_26] at h_24
  have hl_27 : xs_26.length = 54 := by rw [exs_26, List.length_set]; exact hl_6
  have hp_28 : xs_26[1]? = some (.ref tp) := by rw [exs_26, List.getElem?_set_ne (by decide)]; exact hp_7
  have hp_29 : xs_26[2]? = some (.int 0) := by rw [exs_26, List.getElem?_set_ne (by decide)]; exact hp_8
  have hp_30 : xs_26[8]? = some (.ref cd) := by rw [exs_26, List.getElem?_set_ne (by decide)]; exact hp_9
  have hp_31 : xs_26[9]? = some (.ref cl) := by rw [exs_26, List.getElem?_set_ne (by decide)]; exact hp_10
  have hp_32 : xs_26[13]? = some (.int 0) := by rw [exs_26, List.getElem?_set_ne (by decide)]; exact hp_11
  have hp_33 : xs_26[24]? = some (.int 0) := by rw [exs_26, List.getElem?_set_ne (by decide)]; exact hp_12
  have hp_34 : xs_26[25]? = some (.int 0) := by rw [exs_26, List.getElem?_set_ne (by decide)]; exact hp_13
  have hp_35 : xs_26[29]? = some (.int 0) := by rw [exs_26, List.getElem?_set_ne (by decide)]; exact hp_14
  have hp_36 : xs_26[31]? = some (.int (-1)) := by rw [exs_26, List.getElem?_set_ne (by decide)]; exact hp_15
  have hp_37 : xs_26[43]? = some (.int 0) := by rw [exs_26, List.getElem?_set_ne (by decide)]; exact hp_16
  have hp_38 : xs_26[53]? = some (.int 0) := by rw [exs_26, List.getElem?_set_ne (by decide)]; exact hp_17
  have hp_39 : xs_26[32]? = some (.int v32) := by rw [exs_26, List.getElem?_set_ne (by decide)]; exact hp_18
  have hp_40 : xs_26[33]? = some (.int v33) := by rw [exs_26, List.getElem?_set_ne (by decide)]; exact hp_19
  have hp_41 : xs_26[34]? = some (.int v34) := by rw [exs_26, List.getElem?_set_ne (by decide)]; exact hp_20
  have hp_42 : xs_26[3]? = some (.int 0) := by rw [exs_26, List.getElem?_set_ne (by decide)]; exact hp_21
  have hp_43 : xs_26[4]? = some (.int (-1)) := by rw [exs_26, List.getElem?_set_self (by rw [hl_6]; decide)]
  have htp := htp.ext x_25 (Ne.symm (py_ne_arr h_3 htp))
  have hcd := hcd.ext x_25 (Ne.symm (py_ne_arr h_3 hcd))
  have hcl := hcl.ext x_25 (Ne.symm (py_ne_arr h_3 hcl))
  refine lv_aload_n G.1 G.2.1 dX12_readValley_10 rfl (lv_at hl 0 rfl) ?_
  refine lv_iconst (v := 0) G.1 G.2.1 dX12_readValley_11 (by decide) ?_
  refine py_put (C := RX12) (T := TX12) (N := 54) (k := 19) (v := .int 0) (fs' := xs_26.set 19 (.int 0)) (ty0 := tyX12) G hw tyX12_ok nmX12 in_X12_readValley_X12 rfl h_24 (by decide) (by decide +kernel) rfl rfl rfl rfl (py_len hl_27 (by decide)) rfl dX12_readValley_12 (fun f_44 H_45 locs h_46 x_47 hw => ?_)
  obtain ⟨xs_48, exs_48⟩ : ∃ y, y = xs_26.set 19 (.int 0) := ⟨_, rfl⟩
  rw [← exs_48] at h_46
  have hl_49 : xs_48.length = 54 := by rw [exs_48, List.length_set]; exact hl_27
  have hp_50 : xs_48[1]? = some (.ref tp) := by rw [exs_48, List.getElem?_set_ne (by decide)]; exact hp_28
  have hp_51 : xs_48[2]? = some (.int 0) := by rw [exs_48, List.getElem?_set_ne (by decide)]; exact hp_29
  have hp_52 : xs_48[8]? = some (.ref cd) := by rw [exs_48, List.getElem?_set_ne (by decide)]; exact hp_30
  have hp_53 : xs_48[9]? = some (.ref cl) := by rw [exs_48, List.getElem?_set_ne (by decide)]; exact hp_31
  have hp_54 : xs_48[13]? = some (.int 0) := by rw [exs_48, List.getElem?_set_ne (by decide)]; exact hp_32
  have hp_55 : xs_48[24]? = some (.int 0) := by rw [exs_48, List.getElem?_set_ne (by decide)]; exact hp_33
  have hp_56 : xs_48[25]? = some (.int 0) := by rw [exs_48, List.getElem?_set_ne (by decide)]; exact hp_34
  have hp_57 : xs_48[29]? = some (.int 0) := by rw [exs_48, List.getElem?_set_ne (by decide)]; exact hp_35
  have hp_58 : xs_48[31]? = some (.int (-1)) := by rw [exs_48, List.getElem?_set_ne (by decide)]; exact hp_36
  have hp_59 : xs_48[43]? = some (.int 0) := by rw [exs_48, List.getElem?_set_ne (by decide)]; exact hp_37
  have hp_60 : xs_48[53]? = some (.int 0) := by rw [exs_48, List.getElem?_set_ne (by decide)]; exact hp_38
  have hp_61 : xs_48[32]? = some (.int v32) := by rw [exs_48, List.getElem?_set_ne (by decide)]; exact hp_39
  have hp_62 : xs_48[33]? = some (.int v33) := by rw [exs_48, List.getElem?_set_ne (by decide)]; exact hp_40
  have hp_63 : xs_48[34]? = some (.int v34) := by rw [exs_48, List.getElem?_set_ne (by decide)]; exact hp_41
  have hp_64 : xs_48[3]? = some (.int 0) := by rw [exs_48, List.getElem?_set_ne (by decide)]; exact hp_42
  have hp_65 : xs_48[4]? = some (.int (-1)) := by rw [exs_48, List.getElem?_set_ne (by decide)]; exact hp_43
  have hp_66 : xs_48[19]? = some (.int 0) := by rw [exs_48, List.getElem?_set_self (by rw [hl_27]; decide)]
  have htp := htp.ext x_47 (Ne.symm (py_ne_arr h_24 htp))
  have hcd := hcd.ext x_47 (Ne.symm (py_ne_arr h_24 hcd))
  have hcl := hcl.ext x_47 (Ne.symm (py_ne_arr h_24 hcl))
  refine lv_aload_n G.1 G.2.1 dX12_readValley_15 rfl (lv_at hl 0 rfl) ?_
  refine lv_iconst (v := 0) G.1 G.2.1 dX12_readValley_16 (by decide) ?_
  refine py_put (C := RX12) (T := TX12) (N := 54) (k := 20) (v := .int 0) (fs' := xs_48.set 20 (.int 0)) (ty0 := tyX12) G hw tyX12_ok nmX12 in_X12_readValley_X12 rfl h_46 (by decide) (by decide +kernel) rfl rfl rfl rfl (py_len hl_49 (by decide)) rfl dX12_readValley_17 (fun f_67 H_68 locs h_69 x_70 hw => ?_)
  obtain ⟨xs_71, exs_71⟩ : ∃ y, y = xs_48.set 20 (.int 0) := ⟨_, rfl⟩
  rw [← exs_71] at h_69
  have hl_72 : xs_71.length = 54 := by rw [exs_71, List.length_set]; exact hl_49
  have hp_73 : xs_71[1]? = some (.ref tp) := by rw [exs_71, List.getElem?_set_ne (by decide)]; exact hp_50
  have hp_74 : xs_71[2]? = some (.int 0) := by rw [exs_71, List.getElem?_set_ne (by decide)]; exact hp_51
  have hp_75 : xs_71[8]? = some (.ref cd) := by rw [exs_71, List.getElem?_set_ne (by decide)]; exact hp_52
  have hp_76 : xs_71[9]? = some (.ref cl) := by rw [exs_71, List.getElem?_set_ne (by decide)]; exact hp_53
  have hp_77 : xs_71[13]? = some (.int 0) := by rw [exs_71, List.getElem?_set_ne (by decide)]; exact hp_54
  have hp_78 : xs_71[24]? = some (.int 0) := by rw [exs_71, List.getElem?_set_ne (by decide)]; exact hp_55
  have hp_79 : xs_71[25]? = some (.int 0) := by rw [exs_71, List.getElem?_set_ne (by decide)]; exact hp_56
  have hp_80 : xs_71[29]? = some (.int 0) := by rw [exs_71, List.getElem?_set_ne (by decide)]; exact hp_57
  have hp_81 : xs_71[31]? = some (.int (-1)) := by rw [exs_71, List.getElem?_set_ne (by decide)]; exact hp_58
  have hp_82 : xs_71[43]? = some (.int 0) := by rw [exs_71, List.getElem?_set_ne (by decide)]; exact hp_59
  have hp_83 : xs_71[53]? = some (.int 0) := by rw [exs_71, List.getElem?_set_ne (by decide)]; exact hp_60
  have hp_84 : xs_71[32]? = some (.int v32) := by rw [exs_71, List.getElem?_set_ne (by decide)]; exact hp_61
  have hp_85 : xs_71[33]? = some (.int v33) := by rw [exs_71, List.getElem?_set_ne (by decide)]; exact hp_62
  have hp_86 : xs_71[34]? = some (.int v34) := by rw [exs_71, List.getElem?_set_ne (by decide)]; exact hp_63
  have hp_87 : xs_71[3]? = some (.int 0) := by rw [exs_71, List.getElem?_set_ne (by decide)]; exact hp_64
  have hp_88 : xs_71[4]? = some (.int (-1)) := by rw [exs_71, List.getElem?_set_ne (by decide)]; exact hp_65
  have hp_89 : xs_71[19]? = some (.int 0) := by rw [exs_71, List.getElem?_set_ne (by decide)]; exact hp_66
  have hp_90 : xs_71[20]? = some (.int 0) := by rw [exs_71, List.getElem?_set_self (by rw [hl_49]; decide)]
  have htp := htp.ext x_70 (Ne.symm (py_ne_arr h_46 htp))
  have hcd := hcd.ext x_70 (Ne.symm (py_ne_arr h_46 hcd))
  have hcl := hcl.ext x_70 (Ne.symm (py_ne_arr h_46 hcl))
  refine lv_iconst (v := 1) G.1 G.2.1 dX12_readValley_20 (by decide) ?_
  refine lv_istore_n (lv' := [(1, .int 1), (0, .ref h)]) G.1 G.2.1 dX12_readValley_21 rfl hl (by decide) rfl (fun ls hl => ?_)
  refine lv_iload_n G.1 G.2.1 dX12_readValley_22 rfl (lv_at hl 0 rfl) ?_
  refine lv_if_eq (tgt := 82) G.1 G.2.1 dX12_readValley_23 (by decide) (fun c_91 => ?_) (fun c_91 => ?_)
  · skip
    exact absurd c_91 (by decide)
  · skip
    refine lv_aload_n G.1 G.2.1 dX12_readValley_26 rfl (lv_at hl 1 rfl) ?_
    refine py_get (C := RX12) (T := TX12) (N := 54) (k := 4) (v := .int (-1)) G hw in_X12_readValley_X12 rfl h_69 (by decide) (by decide +kernel) hp_88 dX12_readValley_27 ?_
    refine lv_iconst (v := (-1)) G.1 G.2.1 dX12_readValley_30 (by decide) ?_
    refine lv_icmp_ne (tgt := 82) G.1 G.2.1 dX12_readValley_31 (by decide) (fun c_92 => ?_) (fun c_92 => ?_)
    · skip
      exact absurd c_92 (by decide)
    · skip
      refine lv_aload_n G.1 G.2.1 dX12_readValley_34 rfl (lv_at hl 1 rfl) ?_
      refine py_callv hw (va_runV (As := []) (rest := []) G (c_X12_clauseText l E L f_67 H_68.size h xs_71 h_69 hl_72 hp_74 hp_87 hp_88) (cwV 0 G.2.2.2.2 g_X12_readValley_X12_clauseText_274 rfl rfl rfl (by decide +kernel) ⟨(Nat.le_of_ble_eq_true rfl), (Nat.le_of_ble_eq_true rfl)⟩) (py_preV hw (C := RX12) (T := TX12) (N := 54) rfl h_69) rfl rfl hl.1 rfl (lv_room (Nat.le_of_ble_eq_true rfl)) dX12_readValley_35 ⟨(Nat.le_of_ble_eq_true rfl), (Nat.le_of_ble_eq_true rfl)⟩) (fun L_93 f_94 H_95 locs hp_96 hw => ?_)
      obtain ⟨xs_98, h_99, hl_100, hk_101, x_102⟩ := hp_96
      have hp_104 : xs_98[1]? = some (.ref tp) := (hk_101.2 1 (by decide)).trans hp_73
      have hp_105 : xs_98[2]? = some (.int 0) := (hk_101.2 2 (by decide)).trans hp_74
      have hp_106 : xs_98[8]? = some (.ref cd) := (hk_101.2 8 (by decide)).trans hp_75
      have hp_107 : xs_98[9]? = some (.ref cl) := (hk_101.2 9 (by decide)).trans hp_76
      have hp_108 : xs_98[13]? = some (.int 0) := (hk_101.2 13 (by decide)).trans hp_77
      have hp_109 : xs_98[24]? = some (.int 0) := (hk_101.2 24 (by decide)).trans hp_78
      have hp_110 : xs_98[25]? = some (.int 0) := (hk_101.2 25 (by decide)).trans hp_79
      have hp_111 : xs_98[29]? = some (.int 0) := (hk_101.2 29 (by decide)).trans hp_80
      have hp_112 : xs_98[31]? = some (.int (-1)) := (hk_101.2 31 (by decide)).trans hp_81
      have hp_113 : xs_98[43]? = some (.int 0) := (hk_101.2 43 (by decide)).trans hp_82
      have hp_114 : xs_98[53]? = some (.int 0) := (hk_101.2 53 (by decide)).trans hp_83
      have hp_115 : xs_98[32]? = some (.int v32) := (hk_101.2 32 (by decide)).trans hp_84
      have hp_116 : xs_98[33]? = some (.int v33) := (hk_101.2 33 (by decide)).trans hp_85
      have hp_117 : xs_98[34]? = some (.int v34) := (hk_101.2 34 (by decide)).trans hp_86
      have hp_118 : xs_98[3]? = some (.int 0) := (hk_101.2 3 (by decide)).trans hp_87
      have hp_119 : xs_98[19]? = some (.int 0) := (hk_101.2 19 (by decide)).trans hp_89
      have hp_120 : xs_98[20]? = some (.int 0) := (hk_101.2 20 (by decide)).trans hp_90
      have htp := htp.ext x_102 (Ne.symm (py_ne_arr h_69 htp))
      have hcd := hcd.ext x_102 (Ne.symm (py_ne_arr h_69 hcd))
      have hcl := hcl.ext x_102 (Ne.symm (py_ne_arr h_69 hcl))
      refine lv_aload_n G.1 G.2.1 dX12_readValley_38 rfl (lv_at hl 1 rfl) ?_
      refine py_get (C := RX12) (T := TX12) (N := 54) (k := 4) (v := .int 0) G hw in_X12_readValley_X12 rfl h_99 (by decide) (by decide +kernel) hk_101.1 dX12_readValley_39 ?_
      refine lv_iconst (v := (-1)) G.1 G.2.1 dX12_readValley_42 (by decide) ?_
      refine lv_icmp_ne (tgt := 59) G.1 G.2.1 dX12_readValley_43 (by decide) (fun c_121 => ?_) (fun c_121 => ?_)
      · skip
        refine lv_iconst (v := 0) G.1 G.2.1 dX12_readValley_59 (by decide) ?_
        refine lv_istore_n (lv' := [(1, .int 0), (0, .ref h)]) G.1 G.2.1 dX12_readValley_60 rfl hl (by decide) rfl (fun ls hl => ?_)
        refine lv_aload_n G.1 G.2.1 dX12_readValley_61 rfl (lv_at hl 1 rfl) ?_
        refine lv_dup G.1 G.2.1 dX12_readValley_62 rfl ?_
        refine py_get (C := RX12) (T := TX12) (N := 54) (k := 3) (v := .int 0) G hw in_X12_readValley_X12 rfl h_99 (by decide) (by decide +kernel) hp_118 dX12_readValley_63 ?_
        refine lv_iload_n G.1 G.2.1 dX12_readValley_66 rfl (lv_at hl 0 rfl) ?_
        refine lv_if_eq (tgt := 74) G.1 G.2.1 dX12_readValley_67 (by decide) (fun c_122 => ?_) (fun c_122 => ?_)
        · skip
          refine lv_iconst (v := 0) G.1 G.2.1 dX12_readValley_74 (by decide) ?_
          refine lv_iadd G.1 G.2.1 dX12_readValley_75 ?_
          rw [show 0 + 0 = (0 : Int32) by decide]
          refine py_put (C := RX12) (T := TX12) (N := 54) (k := 3) (v := .int 0) (fs' := xs_98.set 3 (.int 0)) (ty0 := tyX12) G hw tyX12_ok nmX12 in_X12_readValley_X12 rfl h_99 (by decide) (by decide +kernel) rfl rfl rfl rfl (py_len hl_100 (by decide)) rfl dX12_readValley_76 (fun f_123 H_124 locs h_125 x_126 hw => ?_)
          obtain ⟨xs_127, exs_127⟩ : ∃ y, y = xs_98.set 3 (.int 0) := ⟨_, rfl⟩
          rw [← exs_127] at h_125
          have hl_128 : xs_127.length = 54 := by rw [exs_127, List.length_set]; exact hl_100
          have hp_129 : xs_127[1]? = some (.ref tp) := by rw [exs_127, List.getElem?_set_ne (by decide)]; exact hp_104
          have hp_130 : xs_127[2]? = some (.int 0) := by rw [exs_127, List.getElem?_set_ne (by decide)]; exact hp_105
          have hp_131 : xs_127[8]? = some (.ref cd) := by rw [exs_127, List.getElem?_set_ne (by decide)]; exact hp_106
          have hp_132 : xs_127[9]? = some (.ref cl) := by rw [exs_127, List.getElem?_set_ne (by decide)]; exact hp_107
          have hp_133 : xs_127[13]? = some (.int 0) := by rw [exs_127, List.getElem?_set_ne (by decide)]; exact hp_108
          have hp_134 : xs_127[24]? = some (.int 0) := by rw [exs_127, List.getElem?_set_ne (by decide)]; exact hp_109
          have hp_135 : xs_127[25]? = some (.int 0) := by rw [exs_127, List.getElem?_set_ne (by decide)]; exact hp_110
          have hp_136 : xs_127[29]? = some (.int 0) := by rw [exs_127, List.getElem?_set_ne (by decide)]; exact hp_111
          have hp_137 : xs_127[31]? = some (.int (-1)) := by rw [exs_127, List.getElem?_set_ne (by decide)]; exact hp_112
          have hp_138 : xs_127[43]? = some (.int 0) := by rw [exs_127, List.getElem?_set_ne (by decide)]; exact hp_113
          have hp_139 : xs_127[53]? = some (.int 0) := by rw [exs_127, List.getElem?_set_ne (by decide)]; exact hp_114
          have hp_140 : xs_127[32]? = some (.int v32) := by rw [exs_127, List.getElem?_set_ne (by decide)]; exact hp_115
          have hp_141 : xs_127[33]? = some (.int v33) := by rw [exs_127, List.getElem?_set_ne (by decide)]; exact hp_116
          have hp_142 : xs_127[34]? = some (.int v34) := by rw [exs_127, List.getElem?_set_ne (by decide)]; exact hp_117
          have hp_143 : xs_127[19]? = some (.int 0) := by rw [exs_127, List.getElem?_set_ne (by decide)]; exact hp_119
          have hp_144 : xs_127[20]? = some (.int 0) := by rw [exs_127, List.getElem?_set_ne (by decide)]; exact hp_120
          have hp_145 : xs_127[4]? = some (.int 0) := by rw [exs_127, List.getElem?_set_ne (by decide)]; exact hk_101.1
          have hp_146 : xs_127[3]? = some (.int 0) := by rw [exs_127, List.getElem?_set_self (by rw [hl_100]; decide)]
          have htp := htp.ext x_126 (Ne.symm (py_ne_arr h_99 htp))
          have hcd := hcd.ext x_126 (Ne.symm (py_ne_arr h_99 hcd))
          have hcl := hcl.ext x_126 (Ne.symm (py_ne_arr h_99 hcl))
          refine lv_goto (tgt := 22) G.1 G.2.1 dX12_readValley_79 (by decide) ?_
          refine lv_iload_n G.1 G.2.1 dX12_readValley_22 rfl (lv_at hl 0 rfl) ?_
          refine lv_if_eq (tgt := 82) G.1 G.2.1 dX12_readValley_23 (by decide) (fun c_147 => ?_) (fun c_147 => ?_)
          · skip
            refine lv_aload_n G.1 G.2.1 dX12_readValley_82 rfl (lv_at hl 1 rfl) ?_
            refine py_get (C := RX12) (T := TX12) (N := 54) (k := 4) (v := .int 0) G hw in_X12_readValley_X12 rfl h_125 (by decide) (by decide +kernel) hp_145 dX12_readValley_83 ?_
            refine lv_iconst (v := (-1)) G.1 G.2.1 dX12_readValley_86 (by decide) ?_
            refine lv_icmp_ne (tgt := 124) G.1 G.2.1 dX12_readValley_87 (by decide) (fun c_148 => ?_) (fun c_148 => ?_)
            · skip
              refine lv_aload_n G.1 G.2.1 dX12_readValley_124 rfl (lv_at hl 1 rfl) ?_
              refine py_get (C := RX12) (T := TX12) (N := 54) (k := 4) (v := .int 0) G hw in_X12_readValley_X12 rfl h_125 (by decide) (by decide +kernel) hp_145 dX12_readValley_125 ?_
              exact py_iret G hr rfl hlk hw rfl dX12_readValley_128
            · skip
              exact absurd c_148 (by decide)
          · skip
            exact absurd c_147 (by decide)
        · skip
          exact absurd c_122 (by decide)
      · skip
        exact absurd c_121 (by decide)

def w_X12_open : List Cond := .code yX12_open cX12_open 2 none :: ([Cond.fieldLink RX12 137 "HeadYearModel" "text" "I", Cond.fieldLink RX12 127 "HeadYearModel" "at" "I", Cond.fieldLink RX12 134 "HeadYearModel" "wrong" "I", Cond.fieldLink RX12 140 "HeadYearModel" "deep" "I", Cond.fieldLink RX12 19 "HeadYearModel" "codes" "[I", Cond.fieldLink RX12 22 "HeadYearModel" "clauses" "[I"] ++ (u_ws RX12 TX12 54 ++ ([])))
theorem in_X12_open_X12 : ∀ w ∈ u_ws RX12 TX12 54, w ∈ w_X12_open := fun _ h => List.mem_cons_of_mem _ (List.mem_append_right _ (List.mem_append_left _ h))
set_option maxHeartbeats 4000000 in
set_option maxRecDepth 100000 in
theorem c_X12_open (l : Launch) (E : py_E) (L : List Nat) (f : py_F) (sz : Nat) (h : Nat) (n : Int32) (hM : fr_M E L f h) (hn : vp_in n 5) : Met l yX12_open w_X12_open ({ frames := 0, cells := 0, slots := 0, locals := 0 }) (py_Pc E [.ref h, .int n] L f sz) (py_Qv E L f sz (fun L1 f1 => ∃ (ys : List Value) (cl : Nat) (g : Nat → Int32), py_at L1 f1 h (.inr (12, ys)) ∧ ys.length = 54 ∧ ys[2]? = some (.int 0) ∧ ys[3]? = some (.int 0) ∧ ys[4]? = some (.int (-1)) ∧ ys[9]? = some (.ref cl) ∧ ys[14]? = some (.int n) ∧ py_at L1 f1 cl (.inl (E.2.1, 5, .inl g)))) 0 0 (va_A (va_pl L f) sz) := by
  refine Met.ofW (cc := cX12_open) (maxL := 2) (ret := none) (by decide) rfl ?_
  intro p e s m args below meth c s₁ B hml hv
  obtain ⟨rfl, rfl, hw⟩ := py_start hv
  have G : CallFix p m c cX12_open 2 s _ w_X12_open RX12 := ⟨B.exec, B.bytes, hml, findClass_of_methodNamed B.named, atoms_spec (ws := w_X12_open) B.pre⟩
  have hr := B.returns
  have hlk := B.notSynchronized
  have hl := lv_entry ([.ref h, .int n]) (n := 2) (Nat.le_of_ble_eq_true rfl)
  rw [lg_entry_eq]
  generalize (lg_sl ([.ref h, .int n]) ++ List.replicate (2 - (lg_sl ([.ref h, .int n])).length) Slot.unset).toArray = ls at hl ⊢
  have hl : lv_has ls 2 [(0, .ref h), (1, .int n)] := hl
  obtain ⟨tp, cd, cl, g1, g2, g3, xs, v32, v33, v34, hh, hxs, hp1, hp2, hp8, hp9, hp13, hp24, hp25, hp29, hp31, hp43, hp53, ⟨hp32, hp33, hp34⟩, htp, hcd, hcl⟩ := id hM
  refine lv_aload_n G.1 G.2.1 dX12_open_0 rfl (lv_at hl 0 rfl) ?_
  refine lv_iload_n G.1 G.2.1 dX12_open_1 rfl (lv_at hl 1 rfl) ?_
  refine py_put (C := RX12) (T := TX12) (N := 54) (k := 14) (v := .int n) (fs' := xs.set 14 (.int n)) (ty0 := tyX12) G hw tyX12_ok nmX12 in_X12_open_X12 rfl hh (by decide) (by decide +kernel) rfl rfl rfl rfl (py_len hxs (by decide)) rfl dX12_open_2 (fun f_1 H_2 locs h_3 x_4 hw => ?_)
  obtain ⟨xs_5, exs_5⟩ : ∃ y, y = xs.set 14 (.int n) := ⟨_, rfl⟩
  rw [← exs_5] at h_3
  have hl_6 : xs_5.length = 54 := by rw [exs_5, List.length_set]; exact hxs
  have hp_7 : xs_5[1]? = some (.ref tp) := by rw [exs_5, List.getElem?_set_ne (by decide)]; exact hp1
  have hp_8 : xs_5[2]? = some (.int 0) := by rw [exs_5, List.getElem?_set_ne (by decide)]; exact hp2
  have hp_9 : xs_5[8]? = some (.ref cd) := by rw [exs_5, List.getElem?_set_ne (by decide)]; exact hp8
  have hp_10 : xs_5[9]? = some (.ref cl) := by rw [exs_5, List.getElem?_set_ne (by decide)]; exact hp9
  have hp_11 : xs_5[13]? = some (.int 0) := by rw [exs_5, List.getElem?_set_ne (by decide)]; exact hp13
  have hp_12 : xs_5[24]? = some (.int 0) := by rw [exs_5, List.getElem?_set_ne (by decide)]; exact hp24
  have hp_13 : xs_5[25]? = some (.int 0) := by rw [exs_5, List.getElem?_set_ne (by decide)]; exact hp25
  have hp_14 : xs_5[29]? = some (.int 0) := by rw [exs_5, List.getElem?_set_ne (by decide)]; exact hp29
  have hp_15 : xs_5[31]? = some (.int (-1)) := by rw [exs_5, List.getElem?_set_ne (by decide)]; exact hp31
  have hp_16 : xs_5[43]? = some (.int 0) := by rw [exs_5, List.getElem?_set_ne (by decide)]; exact hp43
  have hp_17 : xs_5[53]? = some (.int 0) := by rw [exs_5, List.getElem?_set_ne (by decide)]; exact hp53
  have hp_18 : xs_5[32]? = some (.int v32) := by rw [exs_5, List.getElem?_set_ne (by decide)]; exact hp32
  have hp_19 : xs_5[33]? = some (.int v33) := by rw [exs_5, List.getElem?_set_ne (by decide)]; exact hp33
  have hp_20 : xs_5[34]? = some (.int v34) := by rw [exs_5, List.getElem?_set_ne (by decide)]; exact hp34
  have hp_21 : xs_5[14]? = some (.int n) := by rw [exs_5, List.getElem?_set_self (by rw [hxs]; decide)]
  have htp := htp.ext x_4 (Ne.symm (py_ne_arr hh htp))
  have hcd := hcd.ext x_4 (Ne.symm (py_ne_arr hh hcd))
  have hcl := hcl.ext x_4 (Ne.symm (py_ne_arr hh hcl))
  refine lv_aload_n G.1 G.2.1 dX12_open_5 rfl (lv_at hl 0 rfl) ?_
  refine lv_iconst (v := 0) G.1 G.2.1 dX12_open_6 (by decide) ?_
  refine py_put (C := RX12) (T := TX12) (N := 54) (k := 3) (v := .int 0) (fs' := xs_5.set 3 (.int 0)) (ty0 := tyX12) G hw tyX12_ok nmX12 in_X12_open_X12 rfl h_3 (by decide) (by decide +kernel) rfl rfl rfl rfl (py_len hl_6 (by decide)) rfl dX12_open_7 (fun f_22 H_23 locs h_24 x_25 hw => ?_)
  obtain ⟨xs_26, exs_26⟩ : ∃ y, y = xs_5.set 3 (.int 0) := ⟨_, rfl⟩
  rw [← exs_26] at h_24
  have hl_27 : xs_26.length = 54 := by rw [exs_26, List.length_set]; exact hl_6
  have hp_28 : xs_26[1]? = some (.ref tp) := by rw [exs_26, List.getElem?_set_ne (by decide)]; exact hp_7
  have hp_29 : xs_26[2]? = some (.int 0) := by rw [exs_26, List.getElem?_set_ne (by decide)]; exact hp_8
  have hp_30 : xs_26[8]? = some (.ref cd) := by rw [exs_26, List.getElem?_set_ne (by decide)]; exact hp_9
  have hp_31 : xs_26[9]? = some (.ref cl) := by rw [exs_26, List.getElem?_set_ne (by decide)]; exact hp_10
  have hp_32 : xs_26[13]? = some (.int 0) := by rw [exs_26, List.getElem?_set_ne (by decide)]; exact hp_11
  have hp_33 : xs_26[24]? = some (.int 0) := by rw [exs_26, List.getElem?_set_ne (by decide)]; exact hp_12
  have hp_34 : xs_26[25]? = some (.int 0) := by rw [exs_26, List.getElem?_set_ne (by decide)]; exact hp_13
  have hp_35 : xs_26[29]? = some (.int 0) := by rw [exs_26, List.getElem?_set_ne (by decide)]; exact hp_14
  have hp_36 : xs_26[31]? = some (.int (-1)) := by rw [exs_26, List.getElem?_set_ne (by decide)]; exact hp_15
  have hp_37 : xs_26[43]? = some (.int 0) := by rw [exs_26, List.getElem?_set_ne (by decide)]; exact hp_16
  have hp_38 : xs_26[53]? = some (.int 0) := by rw [exs_26, List.getElem?_set_ne (by decide)]; exact hp_17
  have hp_39 : xs_26[32]? = some (.int v32) := by rw [exs_26, List.getElem?_set_ne (by decide)]; exact hp_18
  have hp_40 : xs_26[33]? = some (.int v33) := by rw [exs_26, List.getElem?_set_ne (by decide)]; exact hp_19
  have hp_41 : xs_26[34]? = some (.int v34) := by rw [exs_26, List.getElem?_set_ne (by decide)]; exact hp_20
  have hp_42 : xs_26[14]? = some (.int n) := by rw [exs_26, List.getElem?_set_ne (by decide)]; exact hp_21
  have hp_43 : xs_26[3]? = some (.int 0) := by rw [exs_26, List.getElem?_set_self (by rw [hl_6]; decide)]
  have htp := htp.ext x_25 (Ne.symm (py_ne_arr h_3 htp))
  have hcd := hcd.ext x_25 (Ne.symm (py_ne_arr h_3 hcd))
  have hcl := hcl.ext x_25 (Ne.symm (py_ne_arr h_3 hcl))
  refine lv_aload_n G.1 G.2.1 dX12_open_10 rfl (lv_at hl 0 rfl) ?_
  refine lv_iconst (v := (-1)) G.1 G.2.1 dX12_open_11 (by decide) ?_
  refine py_put (C := RX12) (T := TX12) (N := 54) (k := 4) (v := .int (-1)) (fs' := xs_26.set 4 (.int (-1))) (ty0 := tyX12) G hw tyX12_ok nmX12 in_X12_open_X12 rfl h_24 (by decide) (by decide +kernel) rfl rfl rfl rfl (py_len hl_27 (by decide)) rfl dX12_open_12 (fun f_44 H_45 locs h_46 x_47 hw => ?_)
  obtain ⟨xs_48, exs_48⟩ : ∃ y, y = xs_26.set 4 (.int (-1)) := ⟨_, rfl⟩
  rw [← exs_48] at h_46
  have hl_49 : xs_48.length = 54 := by rw [exs_48, List.length_set]; exact hl_27
  have hp_50 : xs_48[1]? = some (.ref tp) := by rw [exs_48, List.getElem?_set_ne (by decide)]; exact hp_28
  have hp_51 : xs_48[2]? = some (.int 0) := by rw [exs_48, List.getElem?_set_ne (by decide)]; exact hp_29
  have hp_52 : xs_48[8]? = some (.ref cd) := by rw [exs_48, List.getElem?_set_ne (by decide)]; exact hp_30
  have hp_53 : xs_48[9]? = some (.ref cl) := by rw [exs_48, List.getElem?_set_ne (by decide)]; exact hp_31
  have hp_54 : xs_48[13]? = some (.int 0) := by rw [exs_48, List.getElem?_set_ne (by decide)]; exact hp_32
  have hp_55 : xs_48[24]? = some (.int 0) := by rw [exs_48, List.getElem?_set_ne (by decide)]; exact hp_33
  have hp_56 : xs_48[25]? = some (.int 0) := by rw [exs_48, List.getElem?_set_ne (by decide)]; exact hp_34
  have hp_57 : xs_48[29]? = some (.int 0) := by rw [exs_48, List.getElem?_set_ne (by decide)]; exact hp_35
  have hp_58 : xs_48[31]? = some (.int (-1)) := by rw [exs_48, List.getElem?_set_ne (by decide)]; exact hp_36
  have hp_59 : xs_48[43]? = some (.int 0) := by rw [exs_48, List.getElem?_set_ne (by decide)]; exact hp_37
  have hp_60 : xs_48[53]? = some (.int 0) := by rw [exs_48, List.getElem?_set_ne (by decide)]; exact hp_38
  have hp_61 : xs_48[32]? = some (.int v32) := by rw [exs_48, List.getElem?_set_ne (by decide)]; exact hp_39
  have hp_62 : xs_48[33]? = some (.int v33) := by rw [exs_48, List.getElem?_set_ne (by decide)]; exact hp_40
  have hp_63 : xs_48[34]? = some (.int v34) := by rw [exs_48, List.getElem?_set_ne (by decide)]; exact hp_41
  have hp_64 : xs_48[14]? = some (.int n) := by rw [exs_48, List.getElem?_set_ne (by decide)]; exact hp_42
  have hp_65 : xs_48[3]? = some (.int 0) := by rw [exs_48, List.getElem?_set_ne (by decide)]; exact hp_43
  have hp_66 : xs_48[4]? = some (.int (-1)) := by rw [exs_48, List.getElem?_set_self (by rw [hl_27]; decide)]
  have htp := htp.ext x_47 (Ne.symm (py_ne_arr h_24 htp))
  have hcd := hcd.ext x_47 (Ne.symm (py_ne_arr h_24 hcd))
  have hcl := hcl.ext x_47 (Ne.symm (py_ne_arr h_24 hcl))
  refine lv_aload_n G.1 G.2.1 dX12_open_15 rfl (lv_at hl 0 rfl) ?_
  refine lv_iconst (v := 0) G.1 G.2.1 dX12_open_16 (by decide) ?_
  refine py_put (C := RX12) (T := TX12) (N := 54) (k := 5) (v := .int 0) (fs' := xs_48.set 5 (.int 0)) (ty0 := tyX12) G hw tyX12_ok nmX12 in_X12_open_X12 rfl h_46 (by decide) (by decide +kernel) rfl rfl rfl rfl (py_len hl_49 (by decide)) rfl dX12_open_17 (fun f_67 H_68 locs h_69 x_70 hw => ?_)
  obtain ⟨xs_71, exs_71⟩ : ∃ y, y = xs_48.set 5 (.int 0) := ⟨_, rfl⟩
  rw [← exs_71] at h_69
  have hl_72 : xs_71.length = 54 := by rw [exs_71, List.length_set]; exact hl_49
  have hp_73 : xs_71[1]? = some (.ref tp) := by rw [exs_71, List.getElem?_set_ne (by decide)]; exact hp_50
  have hp_74 : xs_71[2]? = some (.int 0) := by rw [exs_71, List.getElem?_set_ne (by decide)]; exact hp_51
  have hp_75 : xs_71[8]? = some (.ref cd) := by rw [exs_71, List.getElem?_set_ne (by decide)]; exact hp_52
  have hp_76 : xs_71[9]? = some (.ref cl) := by rw [exs_71, List.getElem?_set_ne (by decide)]; exact hp_53
  have hp_77 : xs_71[13]? = some (.int 0) := by rw [exs_71, List.getElem?_set_ne (by decide)]; exact hp_54
  have hp_78 : xs_71[24]? = some (.int 0) := by rw [exs_71, List.getElem?_set_ne (by decide)]; exact hp_55
  have hp_79 : xs_71[25]? = some (.int 0) := by rw [exs_71, List.getElem?_set_ne (by decide)]; exact hp_56
  have hp_80 : xs_71[29]? = some (.int 0) := by rw [exs_71, List.getElem?_set_ne (by decide)]; exact hp_57
  have hp_81 : xs_71[31]? = some (.int (-1)) := by rw [exs_71, List.getElem?_set_ne (by decide)]; exact hp_58
  have hp_82 : xs_71[43]? = some (.int 0) := by rw [exs_71, List.getElem?_set_ne (by decide)]; exact hp_59
  have hp_83 : xs_71[53]? = some (.int 0) := by rw [exs_71, List.getElem?_set_ne (by decide)]; exact hp_60
  have hp_84 : xs_71[32]? = some (.int v32) := by rw [exs_71, List.getElem?_set_ne (by decide)]; exact hp_61
  have hp_85 : xs_71[33]? = some (.int v33) := by rw [exs_71, List.getElem?_set_ne (by decide)]; exact hp_62
  have hp_86 : xs_71[34]? = some (.int v34) := by rw [exs_71, List.getElem?_set_ne (by decide)]; exact hp_63
  have hp_87 : xs_71[14]? = some (.int n) := by rw [exs_71, List.getElem?_set_ne (by decide)]; exact hp_64
  have hp_88 : xs_71[3]? = some (.int 0) := by rw [exs_71, List.getElem?_set_ne (by decide)]; exact hp_65
  have hp_89 : xs_71[4]? = some (.int (-1)) := by rw [exs_71, List.getElem?_set_ne (by decide)]; exact hp_66
  have hp_90 : xs_71[5]? = some (.int 0) := by rw [exs_71, List.getElem?_set_self (by rw [hl_49]; decide)]
  have htp := htp.ext x_70 (Ne.symm (py_ne_arr h_46 htp))
  have hcd := hcd.ext x_70 (Ne.symm (py_ne_arr h_46 hcd))
  have hcl := hcl.ext x_70 (Ne.symm (py_ne_arr h_46 hcl))
  refine lv_aload_n G.1 G.2.1 dX12_open_20 rfl (lv_at hl 0 rfl) ?_
  refine py_get (C := RX12) (T := TX12) (N := 54) (k := 8) (v := .ref cd) G hw in_X12_open_X12 rfl h_69 (by decide) (by decide +kernel) hp_75 dX12_open_21 ?_
  refine lv_iload_n G.1 G.2.1 dX12_open_24 rfl (lv_at hl 1 rfl) ?_
  refine lv_iconst (v := 0) G.1 G.2.1 dX12_open_25 (by decide) ?_
  refine py_iast G hw hcd hn dX12_open_26 (fun f_91 H_92 locs h_93 x_94 hw => ?_)
  generalize upd g2 _ _ = g_95 at h_93
  have h_69 := h_69.ext x_94 (py_ne_arr h_69 hcd)
  obtain ⟨g_96, htp⟩ := py_arr htp hcd h_93 x_94
  obtain ⟨g_97, hcl⟩ := py_arr hcl hcd h_93 x_94
  refine lv_aload_n G.1 G.2.1 dX12_open_27 rfl (lv_at hl 0 rfl) ?_
  refine py_get (C := RX12) (T := TX12) (N := 54) (k := 9) (v := .ref cl) G hw in_X12_open_X12 rfl h_69 (by decide) (by decide +kernel) hp_76 dX12_open_28 ?_
  refine lv_iload_n G.1 G.2.1 dX12_open_31 rfl (lv_at hl 1 rfl) ?_
  refine lv_iconst (v := 0) G.1 G.2.1 dX12_open_32 (by decide) ?_
  refine py_iast G hw hcl hn dX12_open_33 (fun f_98 H_99 locs h_100 x_101 hw => ?_)
  generalize upd g_97 _ _ = g_102 at h_100
  have h_69 := h_69.ext x_101 (py_ne_arr h_69 hcl)
  obtain ⟨g_103, htp⟩ := py_arr htp hcl h_100 x_101
  obtain ⟨g_104, h_93⟩ := py_arr h_93 hcl h_100 x_101
  exact py_vret G hr hlk hw ⟨_, _, _, h_69, hl_72, hp_74, hp_88, hp_89, hp_76, hp_87, h_100⟩ dX12_open_34

def w_X12_clause : List Cond := .code yX12_clause cX12_clause 3 none :: ([Cond.fieldLink RX12 137 "HeadYearModel" "text" "I", Cond.fieldLink RX12 22 "HeadYearModel" "clauses" "[I", Cond.fieldLink RX12 134 "HeadYearModel" "wrong" "I", Cond.methodLink RX12 146 yX12_look, Cond.instanceMethod yX12_look, Cond.selects RX12 yX12_look yX12_look, Cond.initialized RX12, Cond.methodLink RX12 143 yX12_bad, Cond.instanceMethod yX12_bad, Cond.selects RX12 yX12_bad yX12_bad, Cond.fieldLink RX12 127 "HeadYearModel" "at" "I"] ++ (u_ws RX12 TX12 54 ++ (w_X12_look ++ (w_X12_bad ++ ([])))))
theorem in_X12_clause_X12 : ∀ w ∈ u_ws RX12 TX12 54, w ∈ w_X12_clause := fun _ h => List.mem_cons_of_mem _ (List.mem_append_right _ (List.mem_append_left _ h))
theorem gg_X12_clause_X12_look : GoodIn w_X12_clause w_X12_look := goodIn_sub (fun _ h => List.mem_cons_of_mem _ (List.mem_append_right _ (List.mem_append_right _ (List.mem_append_left _ h)))) (by decide +kernel)
theorem gg_X12_clause_X12_bad : GoodIn w_X12_clause w_X12_bad := goodIn_sub (fun _ h => List.mem_cons_of_mem _ (List.mem_append_right _ (List.mem_append_right _ (List.mem_append_right _ (List.mem_append_left _ h))))) (by decide +kernel)
theorem g_X12_clause_X12_bad_143 : GoodIn w_X12_clause (wsV RX12 143 RX12 yX12_bad w_X12_bad) := goodIn_app (goodIn_of _ (by decide +kernel)) gg_X12_clause_X12_bad
theorem g_X12_clause_X12_look_146 : GoodIn w_X12_clause (wsV RX12 146 RX12 yX12_look w_X12_look) := goodIn_app (goodIn_of _ (by decide +kernel)) gg_X12_clause_X12_look
set_option maxHeartbeats 4000000 in
set_option maxRecDepth 100000 in
theorem c_X12_clause (l : Launch) (E : py_E) (L : List Nat) (f : py_F) (sz : Nat) (h : Nat) (xs : List Value) (cl : Nat) (g : Nat → Int32) (hh : py_at L f h (.inr (12, xs))) (hxs : xs.length = 54) (hp2 : xs[2]? = some (.int 0)) (hp3 : xs[3]? = some (.int 0)) (hp4 : xs[4]? = some (.int (-1))) (hp9 : xs[9]? = some (.ref cl)) (hcl : py_at L f cl (.inl (E.2.1, 5, .inl g))) (n : Int32) (hp14 : xs[14]? = some (.int n)) (hn : vp_in n 5) : Met l yX12_clause w_X12_clause ({ frames := 2, cells := 0, slots := 0, locals := 40 }) (py_Pc E [.ref h] L f sz) (py_Qv E L f sz (fun L1 f1 => ∃ ys : List Value, py_at L1 f1 h (.inr (12, ys)) ∧ ys.length = 54 ∧ ys[4]? = some (.int 0))) 0 0 (va_A (va_pl L f) sz) := by
  refine Met.ofW (cc := cX12_clause) (maxL := 3) (ret := none) (by decide) rfl ?_
  intro p e s m args below meth c s₁ B hml hv
  obtain ⟨rfl, rfl, hw⟩ := py_start hv
  have G : CallFix p m c cX12_clause 3 s _ w_X12_clause RX12 := ⟨B.exec, B.bytes, hml, findClass_of_methodNamed B.named, atoms_spec (ws := w_X12_clause) B.pre⟩
  have hr := B.returns
  have hlk := B.notSynchronized
  have hl := lv_entry ([.ref h]) (n := 3) (Nat.le_of_ble_eq_true rfl)
  rw [lg_entry_eq]
  generalize (lg_sl ([.ref h]) ++ List.replicate (3 - (lg_sl ([.ref h])).length) Slot.unset).toArray = ls at hl ⊢
  have hl : lv_has ls 3 [(0, .ref h)] := hl
  refine lv_bipush (v := 90) G.1 G.2.1 dX12_clause_0 (by decide) ?_
  refine lv_aload_n G.1 G.2.1 dX12_clause_2 rfl (lv_at hl 0 rfl) ?_
  refine py_get (C := RX12) (T := TX12) (N := 54) (k := 14) (v := .int n) G hw in_X12_clause_X12 rfl hh (by decide) (by decide +kernel) hp14 dX12_clause_3 ?_
  refine lv_imul G.1 G.2.1 dX12_clause_6 ?_
  refine lv_topi (fun x_1 ex_1 => ?_)
  refine lv_aload_n G.1 G.2.1 dX12_clause_7 rfl (lv_at hl 0 rfl) ?_
  refine py_get (C := RX12) (T := TX12) (N := 54) (k := 9) (v := .ref cl) G hw in_X12_clause_X12 rfl hh (by decide) (by decide +kernel) hp9 dX12_clause_8 ?_
  refine lv_aload_n G.1 G.2.1 dX12_clause_11 rfl (lv_at hl 0 rfl) ?_
  refine py_get (C := RX12) (T := TX12) (N := 54) (k := 14) (v := .int n) G hw in_X12_clause_X12 rfl hh (by decide) (by decide +kernel) hp14 dX12_clause_12 ?_
  refine py_iald G hw hcl hn dX12_clause_15 ?_
  refine lv_topi (fun x_2 ex_2 => ?_)
  refine lv_iadd G.1 G.2.1 dX12_clause_16 ?_
  refine lv_topi (fun x_3 ex_3 => ?_)
  refine lv_istore_n (lv' := [(1, .int x_3), (0, .ref h)]) G.1 G.2.1 dX12_clause_17 rfl hl (by decide) rfl (fun ls hl => ?_)
  refine lv_aload_n G.1 G.2.1 dX12_clause_18 rfl (lv_at hl 1 rfl) ?_
  refine py_get (C := RX12) (T := TX12) (N := 54) (k := 4) (v := .int (-1)) G hw in_X12_clause_X12 rfl hh (by decide) (by decide +kernel) hp4 dX12_clause_19 ?_
  refine lv_iconst (v := (-1)) G.1 G.2.1 dX12_clause_22 (by decide) ?_
  refine lv_icmp_ne (tgt := 39) G.1 G.2.1 dX12_clause_23 (by decide) (fun c_4 => ?_) (fun c_4 => ?_)
  · skip
    exact absurd c_4 (by decide)
  · skip
    refine lv_aload_n G.1 G.2.1 dX12_clause_26 rfl (lv_at hl 1 rfl) ?_
    refine py_calli hw (va_runV (As := []) (rest := []) G (c_X12_look l E L f s.heap.size h xs hh hxs hp2 hp3) (cwV 0 G.2.2.2.2 g_X12_clause_X12_look_146 rfl rfl rfl (by decide +kernel) ⟨(Nat.le_of_ble_eq_true rfl), (Nat.le_of_ble_eq_true rfl)⟩) (py_preV hw (C := RX12) (T := TX12) (N := 54) rfl hh) rfl rfl hl.1 rfl (lv_room (Nat.le_of_ble_eq_true rfl)) dX12_clause_27 ⟨(Nat.le_of_ble_eq_true rfl), (Nat.le_of_ble_eq_true rfl)⟩) (fun r_9 L_5 f_6 H_7 locs hp_8 hw => ?_)
    obtain ⟨rfl, rfl, rfl⟩ := hp_8
    refine lv_bipush (v := 121) G.1 G.2.1 dX12_clause_30 (by decide) ?_
    refine lv_icmp_eq (tgt := 39) G.1 G.2.1 dX12_clause_32 (by decide) (fun c_10 => ?_) (fun c_10 => ?_)
    · skip
      exact absurd c_10 (by decide)
    · skip
      refine lv_aload_n G.1 G.2.1 dX12_clause_35 rfl (lv_at hl 1 rfl) ?_
      refine py_callv hw (va_runV (As := []) (rest := []) G (c_X12_bad l E L f H_7.size h xs hh hxs hp3 hp4) (cwV 0 G.2.2.2.2 g_X12_clause_X12_bad_143 rfl rfl rfl (by decide +kernel) ⟨(Nat.le_of_ble_eq_true rfl), (Nat.le_of_ble_eq_true rfl)⟩) (py_preV hw (C := RX12) (T := TX12) (N := 54) rfl hh) rfl rfl hl.1 rfl (lv_room (Nat.le_of_ble_eq_true rfl)) dX12_clause_36 ⟨(Nat.le_of_ble_eq_true rfl), (Nat.le_of_ble_eq_true rfl)⟩) (fun L_11 f_12 H_13 locs hp_14 hw => ?_)
      obtain ⟨xs_16, h_17, hl_18, hk_19, x_20⟩ := hp_14
      have hp_22 : xs_16[2]? = some (.int 0) := (hk_19.2 2 (by decide)).trans hp2
      have hp_23 : xs_16[3]? = some (.int 0) := (hk_19.2 3 (by decide)).trans hp3
      have hp_24 : xs_16[9]? = some (.ref cl) := (hk_19.2 9 (by decide)).trans hp9
      have hp_25 : xs_16[14]? = some (.int n) := (hk_19.2 14 (by decide)).trans hp14
      have hcl := hcl.ext x_20 (Ne.symm (py_ne_arr hh hcl))
      refine lv_aload_n G.1 G.2.1 dX12_clause_39 rfl (lv_at hl 1 rfl) ?_
      refine lv_dup G.1 G.2.1 dX12_clause_40 rfl ?_
      refine py_get (C := RX12) (T := TX12) (N := 54) (k := 3) (v := .int 0) G hw in_X12_clause_X12 rfl h_17 (by decide) (by decide +kernel) hp_23 dX12_clause_41 ?_
      refine lv_iconst (v := 1) G.1 G.2.1 dX12_clause_44 (by decide) ?_
      refine lv_iadd G.1 G.2.1 dX12_clause_45 ?_
      rw [show 0 + 1 = (1 : Int32) by decide]
      refine py_put (C := RX12) (T := TX12) (N := 54) (k := 3) (v := .int 1) (fs' := xs_16.set 3 (.int 1)) (ty0 := tyX12) G hw tyX12_ok nmX12 in_X12_clause_X12 rfl h_17 (by decide) (by decide +kernel) rfl rfl rfl rfl (py_len hl_18 (by decide)) rfl dX12_clause_46 (fun f_26 H_27 locs h_28 x_29 hw => ?_)
      obtain ⟨xs_30, exs_30⟩ : ∃ y, y = xs_16.set 3 (.int 1) := ⟨_, rfl⟩
      rw [← exs_30] at h_28
      have hl_31 : xs_30.length = 54 := by rw [exs_30, List.length_set]; exact hl_18
      have hp_32 : xs_30[2]? = some (.int 0) := by rw [exs_30, List.getElem?_set_ne (by decide)]; exact hp_22
      have hp_33 : xs_30[9]? = some (.ref cl) := by rw [exs_30, List.getElem?_set_ne (by decide)]; exact hp_24
      have hp_34 : xs_30[14]? = some (.int n) := by rw [exs_30, List.getElem?_set_ne (by decide)]; exact hp_25
      have hp_35 : xs_30[4]? = some (.int 0) := by rw [exs_30, List.getElem?_set_ne (by decide)]; exact hk_19.1
      have hp_36 : xs_30[3]? = some (.int 1) := by rw [exs_30, List.getElem?_set_self (by rw [hl_18]; decide)]
      have hcl := hcl.ext x_29 (Ne.symm (py_ne_arr h_17 hcl))
      refine lv_aload_n G.1 G.2.1 dX12_clause_49 rfl (lv_at hl 1 rfl) ?_
      refine py_get (C := RX12) (T := TX12) (N := 54) (k := 4) (v := .int 0) G hw in_X12_clause_X12 rfl h_28 (by decide) (by decide +kernel) hp_35 dX12_clause_50 ?_
      refine lv_iconst (v := (-1)) G.1 G.2.1 dX12_clause_53 (by decide) ?_
      refine lv_icmp_ne (tgt := 70) G.1 G.2.1 dX12_clause_54 (by decide) (fun c_37 => ?_) (fun c_37 => ?_)
      · skip
        refine lv_aload_n G.1 G.2.1 dX12_clause_70 rfl (lv_at hl 1 rfl) ?_
        refine lv_dup G.1 G.2.1 dX12_clause_71 rfl ?_
        refine py_get (C := RX12) (T := TX12) (N := 54) (k := 3) (v := .int 1) G hw in_X12_clause_X12 rfl h_28 (by decide) (by decide +kernel) hp_36 dX12_clause_72 ?_
        refine lv_iconst (v := 1) G.1 G.2.1 dX12_clause_75 (by decide) ?_
        refine lv_iadd G.1 G.2.1 dX12_clause_76 ?_
        rw [show 1 + 1 = (2 : Int32) by decide]
        refine py_put (C := RX12) (T := TX12) (N := 54) (k := 3) (v := .int 2) (fs' := xs_30.set 3 (.int 2)) (ty0 := tyX12) G hw tyX12_ok nmX12 in_X12_clause_X12 rfl h_28 (by decide) (by decide +kernel) rfl rfl rfl rfl (py_len hl_31 (by decide)) rfl dX12_clause_77 (fun f_38 H_39 locs h_40 x_41 hw => ?_)
        obtain ⟨xs_42, exs_42⟩ : ∃ y, y = xs_30.set 3 (.int 2) := ⟨_, rfl⟩
        rw [← exs_42] at h_40
        have hl_43 : xs_42.length = 54 := by rw [exs_42, List.length_set]; exact hl_31
        have hp_44 : xs_42[2]? = some (.int 0) := by rw [exs_42, List.getElem?_set_ne (by decide)]; exact hp_32
        have hp_45 : xs_42[9]? = some (.ref cl) := by rw [exs_42, List.getElem?_set_ne (by decide)]; exact hp_33
        have hp_46 : xs_42[14]? = some (.int n) := by rw [exs_42, List.getElem?_set_ne (by decide)]; exact hp_34
        have hp_47 : xs_42[4]? = some (.int 0) := by rw [exs_42, List.getElem?_set_ne (by decide)]; exact hp_35
        have hp_48 : xs_42[3]? = some (.int 2) := by rw [exs_42, List.getElem?_set_self (by rw [hl_31]; decide)]
        have hcl := hcl.ext x_41 (Ne.symm (py_ne_arr h_28 hcl))
        refine lv_aload_n G.1 G.2.1 dX12_clause_80 rfl (lv_at hl 1 rfl) ?_
        refine py_get (C := RX12) (T := TX12) (N := 54) (k := 4) (v := .int 0) G hw in_X12_clause_X12 rfl h_40 (by decide) (by decide +kernel) hp_47 dX12_clause_81 ?_
        refine lv_iconst (v := (-1)) G.1 G.2.1 dX12_clause_84 (by decide) ?_
        refine lv_icmp_eq (tgt := 89) G.1 G.2.1 dX12_clause_85 (by decide) (fun c_49 => ?_) (fun c_49 => ?_)
        · skip
          exact absurd c_49 (by decide)
        · skip
          exact py_vret G hr hlk hw ⟨_, h_40, hl_43, hp_47⟩ dX12_clause_88
      · skip
        exact absurd c_37 (by decide)

def w_X12_atEnd : List Cond := .code yX12_atEnd cX12_atEnd 1 (some .int) :: ([Cond.fieldLink RX12 134 "HeadYearModel" "wrong" "I"] ++ (u_ws RX12 TX12 54 ++ ([])))
theorem in_X12_atEnd_X12 : ∀ w ∈ u_ws RX12 TX12 54, w ∈ w_X12_atEnd := fun _ h => List.mem_cons_of_mem _ (List.mem_append_right _ (List.mem_append_left _ h))
set_option maxHeartbeats 4000000 in
set_option maxRecDepth 100000 in
theorem c_X12_atEnd (l : Launch) (E : py_E) (L : List Nat) (f : py_F) (sz : Nat) (h : Nat) (xs : List Value) (hh : py_at L f h (.inr (12, xs))) (hxs : xs.length = 54) (hp4 : xs[4]? = some (.int 0)) : Met l yX12_atEnd w_X12_atEnd ({ frames := 0, cells := 0, slots := 0, locals := 0 }) (py_Pc E [.ref h] L f sz) (py_Qi E L f sz (fun r _ _ => r = 0)) 0 0 (va_A (va_pl L f) sz) := by
  refine Met.ofW (cc := cX12_atEnd) (maxL := 1) (ret := (some .int)) (by decide) rfl ?_
  intro p e s m args below meth c s₁ B hml hv
  obtain ⟨rfl, rfl, hw⟩ := py_start hv
  have G : CallFix p m c cX12_atEnd 1 s _ w_X12_atEnd RX12 := ⟨B.exec, B.bytes, hml, findClass_of_methodNamed B.named, atoms_spec (ws := w_X12_atEnd) B.pre⟩
  have hr := B.returns
  have hlk := B.notSynchronized
  have hl := lv_entry ([.ref h]) (n := 1) (Nat.le_of_ble_eq_true rfl)
  rw [lg_entry_eq]
  generalize (lg_sl ([.ref h]) ++ List.replicate (1 - (lg_sl ([.ref h])).length) Slot.unset).toArray = ls at hl ⊢
  have hl : lv_has ls 1 [(0, .ref h)] := hl
  refine lv_aload_n G.1 G.2.1 dX12_atEnd_0 rfl (lv_at hl 0 rfl) ?_
  refine py_get (C := RX12) (T := TX12) (N := 54) (k := 4) (v := .int 0) G hw in_X12_atEnd_X12 rfl hh (by decide) (by decide +kernel) hp4 dX12_atEnd_1 ?_
  refine lv_iconst (v := (-1)) G.1 G.2.1 dX12_atEnd_4 (by decide) ?_
  refine lv_icmp_ne (tgt := 20) G.1 G.2.1 dX12_atEnd_5 (by decide) (fun c_1 => ?_) (fun c_1 => ?_)
  · skip
    refine lv_aload_n G.1 G.2.1 dX12_atEnd_20 rfl (lv_at hl 0 rfl) ?_
    refine py_get (C := RX12) (T := TX12) (N := 54) (k := 4) (v := .int 0) G hw in_X12_atEnd_X12 rfl hh (by decide) (by decide +kernel) hp4 dX12_atEnd_21 ?_
    exact py_iret G hr rfl hlk hw rfl dX12_atEnd_24
  · skip
    exact absurd c_1 (by decide)

def w_X12_readLaw : List Cond := .code yX12_readLaw cX12_readLaw 2 (some .int) :: ([Cond.methodLink RX12 198 yX12_open, Cond.instanceMethod yX12_open, Cond.selects RX12 yX12_open yX12_open, Cond.initialized RX12, Cond.methodLink RX12 201 yX12_clause, Cond.instanceMethod yX12_clause, Cond.selects RX12 yX12_clause yX12_clause, Cond.fieldLink RX12 134 "HeadYearModel" "wrong" "I", Cond.methodLink RX12 204 yX12_atEnd, Cond.instanceMethod yX12_atEnd, Cond.selects RX12 yX12_atEnd yX12_atEnd] ++ (u_ws RX12 TX12 54 ++ (w_X12_open ++ (w_X12_clause ++ (w_X12_atEnd ++ ([]))))))
theorem in_X12_readLaw_X12 : ∀ w ∈ u_ws RX12 TX12 54, w ∈ w_X12_readLaw := fun _ h => List.mem_cons_of_mem _ (List.mem_append_right _ (List.mem_append_left _ h))
theorem gg_X12_readLaw_X12_open : GoodIn w_X12_readLaw w_X12_open := goodIn_sub (fun _ h => List.mem_cons_of_mem _ (List.mem_append_right _ (List.mem_append_right _ (List.mem_append_left _ h)))) (by decide +kernel)
theorem gg_X12_readLaw_X12_clause : GoodIn w_X12_readLaw w_X12_clause := goodIn_sub (fun _ h => List.mem_cons_of_mem _ (List.mem_append_right _ (List.mem_append_right _ (List.mem_append_right _ (List.mem_append_left _ h))))) (by decide +kernel)
theorem gg_X12_readLaw_X12_atEnd : GoodIn w_X12_readLaw w_X12_atEnd := goodIn_sub (fun _ h => List.mem_cons_of_mem _ (List.mem_append_right _ (List.mem_append_right _ (List.mem_append_right _ (List.mem_append_right _ (List.mem_append_left _ h)))))) (by decide +kernel)
theorem g_X12_readLaw_X12_atEnd_204 : GoodIn w_X12_readLaw (wsV RX12 204 RX12 yX12_atEnd w_X12_atEnd) := goodIn_app (goodIn_of _ (by decide +kernel)) gg_X12_readLaw_X12_atEnd
theorem g_X12_readLaw_X12_clause_201 : GoodIn w_X12_readLaw (wsV RX12 201 RX12 yX12_clause w_X12_clause) := goodIn_app (goodIn_of _ (by decide +kernel)) gg_X12_readLaw_X12_clause
theorem g_X12_readLaw_X12_open_198 : GoodIn w_X12_readLaw (wsV RX12 198 RX12 yX12_open w_X12_open) := goodIn_app (goodIn_of _ (by decide +kernel)) gg_X12_readLaw_X12_open
set_option maxHeartbeats 4000000 in
set_option maxRecDepth 100000 in
theorem c_X12_readLaw (l : Launch) (E : py_E) (L : List Nat) (f : py_F) (sz : Nat) (h : Nat) (a : Int32) (hM : fr_M E L f h) (hn : vp_in a 5) : Met l yX12_readLaw w_X12_readLaw ({ frames := 3, cells := 0, slots := 0, locals := 62 }) (py_Pc E [.ref h, .int a] L f sz) (py_Qi E L f sz (fun r _ _ => r = 0)) 0 0 (va_A (va_pl L f) sz) := by
  refine Met.ofW (cc := cX12_readLaw) (maxL := 2) (ret := (some .int)) (by decide) rfl ?_
  intro p e s m args below meth c s₁ B hml hv
  obtain ⟨rfl, rfl, hw⟩ := py_start hv
  have G : CallFix p m c cX12_readLaw 2 s _ w_X12_readLaw RX12 := ⟨B.exec, B.bytes, hml, findClass_of_methodNamed B.named, atoms_spec (ws := w_X12_readLaw) B.pre⟩
  have hr := B.returns
  have hlk := B.notSynchronized
  have hl := lv_entry ([.ref h, .int a]) (n := 2) (Nat.le_of_ble_eq_true rfl)
  rw [lg_entry_eq]
  generalize (lg_sl ([.ref h, .int a]) ++ List.replicate (2 - (lg_sl ([.ref h, .int a])).length) Slot.unset).toArray = ls at hl ⊢
  have hl : lv_has ls 2 [(0, .ref h), (1, .int a)] := hl
  obtain ⟨tp, cd, cl, g1, g2, g3, xs, v32, v33, v34, hh, hxs, hp1, hp2, hp8, hp9, hp13, hp24, hp25, hp29, hp31, hp43, hp53, ⟨hp32, hp33, hp34⟩, htp, hcd, hcl⟩ := id hM
  refine lv_aload_n G.1 G.2.1 dX12_readLaw_0 rfl (lv_at hl 0 rfl) ?_
  refine lv_iload_n G.1 G.2.1 dX12_readLaw_1 rfl (lv_at hl 1 rfl) ?_
  refine py_callv hw (va_runV (As := [.int a]) (rest := []) G (c_X12_open l E L f s.heap.size h a hM hn) (cwV 1 G.2.2.2.2 g_X12_readLaw_X12_open_198 rfl rfl rfl (by decide +kernel) ⟨(Nat.le_of_ble_eq_true rfl), (Nat.le_of_ble_eq_true rfl)⟩) (py_preV hw (C := RX12) (T := TX12) (N := 54) rfl hh) rfl rfl hl.1 rfl (lv_room (Nat.le_of_ble_eq_true rfl)) dX12_readLaw_2 ⟨(Nat.le_of_ble_eq_true rfl), (Nat.le_of_ble_eq_true rfl)⟩) (fun L_1 f_2 H_3 locs hp_4 hw => ?_)
  obtain ⟨xs_6, cl_7, g_8, h_9, hl_10, hp_11, hp_12, hp_13, hp_14, hp_15, hcl_16⟩ := hp_4
  refine lv_aload_n G.1 G.2.1 dX12_readLaw_5 rfl (lv_at hl 0 rfl) ?_
  refine py_callv hw (va_runV (As := []) (rest := []) G (c_X12_clause l E L_1 f_2 H_3.size h xs_6 cl_7 g_8 h_9 hl_10 hp_11 hp_12 hp_13 hp_14 hcl_16 a hp_15 hn) (cwV 0 G.2.2.2.2 g_X12_readLaw_X12_clause_201 rfl rfl rfl (by decide +kernel) ⟨(Nat.le_of_ble_eq_true rfl), (Nat.le_of_ble_eq_true rfl)⟩) (py_preV hw (C := RX12) (T := TX12) (N := 54) rfl h_9) rfl rfl hl.1 rfl (lv_room (Nat.le_of_ble_eq_true rfl)) dX12_readLaw_6 ⟨(Nat.le_of_ble_eq_true rfl), (Nat.le_of_ble_eq_true rfl)⟩) (fun L_17 f_18 H_19 locs hp_20 hw => ?_)
  obtain ⟨xs_22, h_23, hl_24, hp_25⟩ := hp_20
  refine lv_aload_n G.1 G.2.1 dX12_readLaw_9 rfl (lv_at hl 0 rfl) ?_
  refine py_get (C := RX12) (T := TX12) (N := 54) (k := 4) (v := .int 0) G hw in_X12_readLaw_X12 rfl h_23 (by decide) (by decide +kernel) hp_25 dX12_readLaw_10 ?_
  refine lv_iconst (v := (-1)) G.1 G.2.1 dX12_readLaw_13 (by decide) ?_
  refine lv_icmp_ne (tgt := 43) G.1 G.2.1 dX12_readLaw_14 (by decide) (fun c_26 => ?_) (fun c_26 => ?_)
  · skip
    refine lv_aload_n G.1 G.2.1 dX12_readLaw_43 rfl (lv_at hl 0 rfl) ?_
    refine py_calli hw (va_runV (As := []) (rest := []) G (c_X12_atEnd l E L_17 f_18 H_19.size h xs_22 h_23 hl_24 hp_25) (cwV 0 G.2.2.2.2 g_X12_readLaw_X12_atEnd_204 rfl rfl rfl (by decide +kernel) ⟨(Nat.le_of_ble_eq_true rfl), (Nat.le_of_ble_eq_true rfl)⟩) (py_preV hw (C := RX12) (T := TX12) (N := 54) rfl h_23) rfl rfl hl.1 rfl (lv_room (Nat.le_of_ble_eq_true rfl)) dX12_readLaw_44 ⟨(Nat.le_of_ble_eq_true rfl), (Nat.le_of_ble_eq_true rfl)⟩) (fun r_31 L_27 f_28 H_29 locs hp_30 hw => ?_)
    obtain rfl := hp_30
    exact py_iret G hr rfl hlk hw rfl dX12_readLaw_47
  · skip
    exact absurd c_26 (by decide)

def w_X12_fault : List Cond := .code yX12_fault cX12_fault 2 (some .int) :: ([Cond.methodLink RX12 284 yX12_readLaw, Cond.instanceMethod yX12_readLaw, Cond.selects RX12 yX12_readLaw yX12_readLaw, Cond.initialized RX12, Cond.methodLink RX12 281 yX12_readValley, Cond.instanceMethod yX12_readValley, Cond.selects RX12 yX12_readValley yX12_readValley] ++ (w_X12_readLaw ++ (w_X12_readValley ++ ([]))))
theorem gg_X12_fault_X12_readLaw : GoodIn w_X12_fault w_X12_readLaw := goodIn_sub (fun _ h => List.mem_cons_of_mem _ (List.mem_append_right _ (List.mem_append_left _ h))) (by decide +kernel)
theorem gg_X12_fault_X12_readValley : GoodIn w_X12_fault w_X12_readValley := goodIn_sub (fun _ h => List.mem_cons_of_mem _ (List.mem_append_right _ (List.mem_append_right _ (List.mem_append_left _ h)))) (by decide +kernel)
theorem g_X12_fault_X12_readLaw_284 : GoodIn w_X12_fault (wsV RX12 284 RX12 yX12_readLaw w_X12_readLaw) := goodIn_app (goodIn_of _ (by decide +kernel)) gg_X12_fault_X12_readLaw
theorem g_X12_fault_X12_readValley_281 : GoodIn w_X12_fault (wsV RX12 281 RX12 yX12_readValley w_X12_readValley) := goodIn_app (goodIn_of _ (by decide +kernel)) gg_X12_fault_X12_readValley
set_option maxHeartbeats 4000000 in
set_option maxRecDepth 100000 in
theorem c_X12_fault (l : Launch) (E : py_E) (L : List Nat) (f : py_F) (sz : Nat) (h : Nat) (a : Int32) (hM : fr_M E L f h) : Met l yX12_fault w_X12_fault ({ frames := 4, cells := 0, slots := 0, locals := 83 }) (py_Pc E [.ref h, .int a] L f sz) (py_Qi E L f sz (fun r _ _ => r = sp_fault a)) 0 0 (va_A (va_pl L f) sz) := by
  refine Met.ofW (cc := cX12_fault) (maxL := 2) (ret := (some .int)) (by decide) rfl ?_
  intro p e s m args below meth c s₁ B hml hv
  obtain ⟨rfl, rfl, hw⟩ := py_start hv
  have G : CallFix p m c cX12_fault 2 s _ w_X12_fault RX12 := ⟨B.exec, B.bytes, hml, findClass_of_methodNamed B.named, atoms_spec (ws := w_X12_fault) B.pre⟩
  have hr := B.returns
  have hlk := B.notSynchronized
  have hl := lv_entry ([.ref h, .int a]) (n := 2) (Nat.le_of_ble_eq_true rfl)
  rw [lg_entry_eq]
  generalize (lg_sl ([.ref h, .int a]) ++ List.replicate (2 - (lg_sl ([.ref h, .int a])).length) Slot.unset).toArray = ls at hl ⊢
  have hl : lv_has ls 2 [(0, .ref h), (1, .int a)] := hl
  obtain ⟨tp, cd, cl, g1, g2, g3, xs, v32, v33, v34, hh, hxs, hp1, hp2, hp8, hp9, hp13, hp24, hp25, hp29, hp31, hp43, hp53, ⟨hp32, hp33, hp34⟩, htp, hcd, hcl⟩ := id hM
  refine lv_iload_n G.1 G.2.1 dX12_fault_0 rfl (lv_at hl 1 rfl) ?_
  refine lv_if_ne (tgt := 11) G.1 G.2.1 dX12_fault_1 (by decide) (fun c_1 => ?_) (fun c_1 => ?_)
  · skip
    refine lv_iload_n G.1 G.2.1 dX12_fault_11 rfl (lv_at hl 1 rfl) ?_
    refine lv_iconst (v := 1) G.1 G.2.1 dX12_fault_12 (by decide) ?_
    refine lv_icmp_ne (tgt := 24) G.1 G.2.1 dX12_fault_13 (by decide) (fun c_2 => ?_) (fun c_2 => ?_)
    · skip
      refine lv_bipush (v := (-2)) G.1 G.2.1 dX12_fault_24 (by decide) ?_
      exact py_iret G hr rfl hlk hw (by simp [sp_fault, c_1, c_2]) dX12_fault_26
    · skip
      subst c_2
      refine lv_aload_n G.1 G.2.1 dX12_fault_16 rfl (lv_at hl 0 rfl) ?_
      refine lv_iconst (v := 4) G.1 G.2.1 dX12_fault_17 (by decide) ?_
      refine py_calli hw (va_runV (As := [.int 4]) (rest := []) G (c_X12_readLaw l E L f s.heap.size h 4 hM (py_inr (by decide))) (cwV 1 G.2.2.2.2 g_X12_fault_X12_readLaw_284 rfl rfl rfl (by decide +kernel) ⟨(Nat.le_of_ble_eq_true rfl), (Nat.le_of_ble_eq_true rfl)⟩) (py_preV hw (C := RX12) (T := TX12) (N := 54) rfl hh) rfl rfl hl.1 rfl (lv_room (Nat.le_of_ble_eq_true rfl)) dX12_fault_18 ⟨(Nat.le_of_ble_eq_true rfl), (Nat.le_of_ble_eq_true rfl)⟩) (fun r_7 L_3 f_4 H_5 locs hp_6 hw => ?_)
      obtain rfl := hp_6
      refine lv_goto (tgt := 26) G.1 G.2.1 dX12_fault_21 (by decide) ?_
      exact py_iret G hr rfl hlk hw (by simp [sp_fault, c_1]) dX12_fault_26
  · skip
    subst c_1
    refine lv_aload_n G.1 G.2.1 dX12_fault_4 rfl (lv_at hl 0 rfl) ?_
    refine py_calli hw (va_runV (As := []) (rest := []) G (c_X12_readValley l E L f s.heap.size h hM) (cwV 0 G.2.2.2.2 g_X12_fault_X12_readValley_281 rfl rfl rfl (by decide +kernel) ⟨(Nat.le_of_ble_eq_true rfl), (Nat.le_of_ble_eq_true rfl)⟩) (py_preV hw (C := RX12) (T := TX12) (N := 54) rfl hh) rfl rfl hl.1 rfl (lv_room (Nat.le_of_ble_eq_true rfl)) dX12_fault_5 ⟨(Nat.le_of_ble_eq_true rfl), (Nat.le_of_ble_eq_true rfl)⟩) (fun r_12 L_8 f_9 H_10 locs hp_11 hw => ?_)
    obtain rfl := hp_11
    refine lv_goto (tgt := 26) G.1 G.2.1 dX12_fault_8 (by decide) ?_
    exact py_iret G hr rfl hlk hw (by simp [sp_fault]) dX12_fault_26

def w_X12_text : List Cond := .code yX12_text cX12_text 2 (some .int) :: ([Cond.fieldLink RX12 322 "HeadYearModel" "laws" "I", Cond.methodLink RX12 284 yX12_readLaw, Cond.instanceMethod yX12_readLaw, Cond.selects RX12 yX12_readLaw yX12_readLaw, Cond.initialized RX12, Cond.methodLink RX12 281 yX12_readValley, Cond.instanceMethod yX12_readValley, Cond.selects RX12 yX12_readValley yX12_readValley] ++ (u_ws RX12 TX12 54 ++ (w_X12_readLaw ++ (w_X12_readValley ++ ([])))))
theorem in_X12_text_X12 : ∀ w ∈ u_ws RX12 TX12 54, w ∈ w_X12_text := fun _ h => List.mem_cons_of_mem _ (List.mem_append_right _ (List.mem_append_left _ h))
theorem gg_X12_text_X12_readLaw : GoodIn w_X12_text w_X12_readLaw := goodIn_sub (fun _ h => List.mem_cons_of_mem _ (List.mem_append_right _ (List.mem_append_right _ (List.mem_append_left _ h)))) (by decide +kernel)
theorem gg_X12_text_X12_readValley : GoodIn w_X12_text w_X12_readValley := goodIn_sub (fun _ h => List.mem_cons_of_mem _ (List.mem_append_right _ (List.mem_append_right _ (List.mem_append_right _ (List.mem_append_left _ h))))) (by decide +kernel)
theorem g_X12_text_X12_readLaw_284 : GoodIn w_X12_text (wsV RX12 284 RX12 yX12_readLaw w_X12_readLaw) := goodIn_app (goodIn_of _ (by decide +kernel)) gg_X12_text_X12_readLaw
theorem g_X12_text_X12_readValley_281 : GoodIn w_X12_text (wsV RX12 281 RX12 yX12_readValley w_X12_readValley) := goodIn_app (goodIn_of _ (by decide +kernel)) gg_X12_text_X12_readValley
set_option maxHeartbeats 4000000 in
set_option maxRecDepth 100000 in
theorem c_X12_text (l : Launch) (E : py_E) (L : List Nat) (f : py_F) (sz : Nat) (h : Nat) (a : Int32) (hM : fr_M E L f h) : Met l yX12_text w_X12_text ({ frames := 4, cells := 0, slots := 0, locals := 83 }) (py_Pc E [.ref h, .int a] L f sz) (py_Qi E L f sz (fun r _ _ => r = -1)) 0 0 (va_A (va_pl L f) sz) := by
  refine Met.ofW (cc := cX12_text) (maxL := 2) (ret := (some .int)) (by decide) rfl ?_
  intro p e s m args below meth c s₁ B hml hv
  obtain ⟨rfl, rfl, hw⟩ := py_start hv
  have G : CallFix p m c cX12_text 2 s _ w_X12_text RX12 := ⟨B.exec, B.bytes, hml, findClass_of_methodNamed B.named, atoms_spec (ws := w_X12_text) B.pre⟩
  have hr := B.returns
  have hlk := B.notSynchronized
  have hl := lv_entry ([.ref h, .int a]) (n := 2) (Nat.le_of_ble_eq_true rfl)
  rw [lg_entry_eq]
  generalize (lg_sl ([.ref h, .int a]) ++ List.replicate (2 - (lg_sl ([.ref h, .int a])).length) Slot.unset).toArray = ls at hl ⊢
  have hl : lv_has ls 2 [(0, .ref h), (1, .int a)] := hl
  obtain ⟨tp, cd, cl, g1, g2, g3, xs, v32, v33, v34, hh, hxs, hp1, hp2, hp8, hp9, hp13, hp24, hp25, hp29, hp31, hp43, hp53, ⟨hp32, hp33, hp34⟩, htp, hcd, hcl⟩ := id hM
  refine lv_iload_n G.1 G.2.1 dX12_text_0 rfl (lv_at hl 1 rfl) ?_
  refine lv_if_ne (tgt := 22) G.1 G.2.1 dX12_text_1 (by decide) (fun c_1 => ?_) (fun c_1 => ?_)
  · skip
    refine lv_iload_n G.1 G.2.1 dX12_text_22 rfl (lv_at hl 1 rfl) ?_
    refine lv_iconst (v := 1) G.1 G.2.1 dX12_text_23 (by decide) ?_
    refine lv_icmp_ne (tgt := 69) G.1 G.2.1 dX12_text_24 (by decide) (fun c_2 => ?_) (fun c_2 => ?_)
    · skip
      refine lv_iconst (v := (-1)) G.1 G.2.1 dX12_text_69 (by decide) ?_
      exact py_iret G hr rfl hlk hw rfl dX12_text_70
    · skip
      subst c_2
      refine lv_aload_n G.1 G.2.1 dX12_text_27 rfl (lv_at hl 0 rfl) ?_
      refine py_get (C := RX12) (T := TX12) (N := 54) (k := 13) (v := .int 0) G hw in_X12_text_X12 rfl hh (by decide) (by decide +kernel) hp13 dX12_text_28 ?_
      refine lv_iconst (v := 4) G.1 G.2.1 dX12_text_31 (by decide) ?_
      refine lv_icmp_ge (tgt := 69) G.1 G.2.1 dX12_text_32 (by decide) (fun c_3 => ?_) (fun c_3 => ?_)
      · skip
        exact absurd c_3 (by decide)
      · skip
        refine lv_aload_n G.1 G.2.1 dX12_text_35 rfl (lv_at hl 0 rfl) ?_
        refine lv_aload_n G.1 G.2.1 dX12_text_36 rfl (lv_at hl 0 rfl) ?_
        refine py_get (C := RX12) (T := TX12) (N := 54) (k := 13) (v := .int 0) G hw in_X12_text_X12 rfl hh (by decide) (by decide +kernel) hp13 dX12_text_37 ?_
        refine py_calli hw (va_runV (As := [.int 0]) (rest := []) G (c_X12_readLaw l E L f s.heap.size h 0 hM (py_inr (by decide))) (cwV 1 G.2.2.2.2 g_X12_text_X12_readLaw_284 rfl rfl rfl (by decide +kernel) ⟨(Nat.le_of_ble_eq_true rfl), (Nat.le_of_ble_eq_true rfl)⟩) (py_preV hw (C := RX12) (T := TX12) (N := 54) rfl hh) rfl rfl hl.1 rfl (lv_room (Nat.le_of_ble_eq_true rfl)) dX12_text_40 ⟨(Nat.le_of_ble_eq_true rfl), (Nat.le_of_ble_eq_true rfl)⟩) (fun r_8 L_4 f_5 H_6 locs hp_7 hw => ?_)
        obtain rfl := hp_7
        refine lv_iconst (v := (-1)) G.1 G.2.1 dX12_text_43 (by decide) ?_
        refine lv_icmp_ne (tgt := 69) G.1 G.2.1 dX12_text_44 (by decide) (fun c_9 => ?_) (fun c_9 => ?_)
        · skip
          refine lv_iconst (v := (-1)) G.1 G.2.1 dX12_text_69 (by decide) ?_
          exact py_iret G hr rfl hlk hw rfl dX12_text_70
        · skip
          exact absurd c_9 (by decide)
  · skip
    subst c_1
    refine lv_aload_n G.1 G.2.1 dX12_text_4 rfl (lv_at hl 0 rfl) ?_
    refine py_calli hw (va_runV (As := []) (rest := []) G (c_X12_readValley l E L f s.heap.size h hM) (cwV 0 G.2.2.2.2 g_X12_text_X12_readValley_281 rfl rfl rfl (by decide +kernel) ⟨(Nat.le_of_ble_eq_true rfl), (Nat.le_of_ble_eq_true rfl)⟩) (py_preV hw (C := RX12) (T := TX12) (N := 54) rfl hh) rfl rfl hl.1 rfl (lv_room (Nat.le_of_ble_eq_true rfl)) dX12_text_5 ⟨(Nat.le_of_ble_eq_true rfl), (Nat.le_of_ble_eq_true rfl)⟩) (fun r_14 L_10 f_11 H_12 locs hp_13 hw => ?_)
    obtain rfl := hp_13
    refine lv_iconst (v := (-1)) G.1 G.2.1 dX12_text_8 (by decide) ?_
    refine lv_icmp_ne (tgt := 22) G.1 G.2.1 dX12_text_9 (by decide) (fun c_15 => ?_) (fun c_15 => ?_)
    · skip
      refine lv_iload_n G.1 G.2.1 dX12_text_22 rfl (lv_at hl 1 rfl) ?_
      refine lv_iconst (v := 1) G.1 G.2.1 dX12_text_23 (by decide) ?_
      refine lv_icmp_ne (tgt := 69) G.1 G.2.1 dX12_text_24 (by decide) (fun c_16 => ?_) (fun c_16 => ?_)
      · skip
        refine lv_iconst (v := (-1)) G.1 G.2.1 dX12_text_69 (by decide) ?_
        exact py_iret G hr rfl hlk hw rfl dX12_text_70
      · skip
        exact absurd c_16 (by decide)
    · skip
      exact absurd c_15 (by decide)

def w_X12_level : List Cond := .code yX12_level cX12_level 3 (some .int) :: ([Cond.methodLink RX12 330 yX12_isLevel, Cond.instanceMethod yX12_isLevel, Cond.selects RX12 yX12_isLevel yX12_isLevel, Cond.initialized RX12, Cond.fieldLink RX12 117 "HeadYearModel" "thrown" "I"] ++ (u_ws RX12 TX12 54 ++ (w_X12_isLevel ++ ([]))))
theorem in_X12_level_X12 : ∀ w ∈ u_ws RX12 TX12 54, w ∈ w_X12_level := fun _ h => List.mem_cons_of_mem _ (List.mem_append_right _ (List.mem_append_left _ h))
theorem gg_X12_level_X12_isLevel : GoodIn w_X12_level w_X12_isLevel := goodIn_sub (fun _ h => List.mem_cons_of_mem _ (List.mem_append_right _ (List.mem_append_right _ (List.mem_append_left _ h)))) (by decide +kernel)
theorem g_X12_level_X12_isLevel_330 : GoodIn w_X12_level (wsV RX12 330 RX12 yX12_isLevel w_X12_isLevel) := goodIn_app (goodIn_of _ (by decide +kernel)) gg_X12_level_X12_isLevel
set_option maxHeartbeats 4000000 in
set_option maxRecDepth 100000 in
theorem c_X12_level (l : Launch) (E : py_E) (L : List Nat) (f : py_F) (sz : Nat) (h : Nat) (a b : Int32) (hM : fr_M E L f h) : Met l yX12_level w_X12_level ({ frames := 2, cells := 0, slots := 0, locals := 43 }) (py_Pc E [.ref h, .int a, .int b] L f sz) (py_Qi E L f sz (fun r L1 f1 => r = 0 ∧ ∃ ys : List Value, py_at L1 f1 h (.inr (12, ys)) ∧ ys[0]? = some (.int 1))) 0 0 (va_A (va_pl L f) sz) := by
  refine Met.ofW (cc := cX12_level) (maxL := 3) (ret := (some .int)) (by decide) rfl ?_
  intro p e s m args below meth c s₁ B hml hv
  obtain ⟨rfl, rfl, hw⟩ := py_start hv
  have G : CallFix p m c cX12_level 3 s _ w_X12_level RX12 := ⟨B.exec, B.bytes, hml, findClass_of_methodNamed B.named, atoms_spec (ws := w_X12_level) B.pre⟩
  have hr := B.returns
  have hlk := B.notSynchronized
  have hl := lv_entry ([.ref h, .int a, .int b]) (n := 3) (Nat.le_of_ble_eq_true rfl)
  rw [lg_entry_eq]
  generalize (lg_sl ([.ref h, .int a, .int b]) ++ List.replicate (3 - (lg_sl ([.ref h, .int a, .int b])).length) Slot.unset).toArray = ls at hl ⊢
  have hl : lv_has ls 3 [(0, .ref h), (1, .int a), (2, .int b)] := hl
  obtain ⟨tp, cd, cl, g1, g2, g3, xs, v32, v33, v34, hh, hxs, hp1, hp2, hp8, hp9, hp13, hp24, hp25, hp29, hp31, hp43, hp53, ⟨hp32, hp33, hp34⟩, htp, hcd, hcl⟩ := id hM
  refine lv_aload_n G.1 G.2.1 dX12_level_0 rfl (lv_at hl 0 rfl) ?_
  refine lv_aload_n G.1 G.2.1 dX12_level_1 rfl (lv_at hl 0 rfl) ?_
  refine lv_iload_n G.1 G.2.1 dX12_level_2 rfl (lv_at hl 1 rfl) ?_
  refine py_calli hw (va_runV (As := [.int a]) (rest := [.ref h]) G (c_X12_isLevel l E L f s.heap.size h a hM) (cwV 1 G.2.2.2.2 g_X12_level_X12_isLevel_330 rfl rfl rfl (by decide +kernel) ⟨(Nat.le_of_ble_eq_true rfl), (Nat.le_of_ble_eq_true rfl)⟩) (py_preV hw (C := RX12) (T := TX12) (N := 54) rfl hh) rfl rfl hl.1 rfl (lv_room (Nat.le_of_ble_eq_true rfl)) dX12_level_3 ⟨(Nat.le_of_ble_eq_true rfl), (Nat.le_of_ble_eq_true rfl)⟩) (fun r_5 L_1 f_2 H_3 locs hp_4 hw => ?_)
  obtain ⟨rfl, rfl, rfl⟩ := hp_4
  refine lv_if_eq (tgt := 23) G.1 G.2.1 dX12_level_6 (by decide) (fun c_6 => ?_) (fun c_6 => ?_)
  · skip
    refine lv_iconst (v := 1) G.1 G.2.1 dX12_level_23 (by decide) ?_
    refine py_put (C := RX12) (T := TX12) (N := 54) (k := 0) (v := .int 1) (fs' := xs.set 0 (.int 1)) (ty0 := tyX12) G hw tyX12_ok nmX12 in_X12_level_X12 rfl hh (by decide) (by decide +kernel) rfl rfl rfl rfl (py_len hxs (by decide)) rfl dX12_level_24 (fun f_7 H_8 locs h_9 x_10 hw => ?_)
    obtain ⟨xs_11, exs_11⟩ : ∃ y, y = xs.set 0 (.int 1) := ⟨_, rfl⟩
    rw [← exs_11] at h_9
    have hl_12 : xs_11.length = 54 := by rw [exs_11, List.length_set]; exact hxs
    have hp_13 : xs_11[1]? = some (.ref tp) := by rw [exs_11, List.getElem?_set_ne (by decide)]; exact hp1
    have hp_14 : xs_11[2]? = some (.int 0) := by rw [exs_11, List.getElem?_set_ne (by decide)]; exact hp2
    have hp_15 : xs_11[8]? = some (.ref cd) := by rw [exs_11, List.getElem?_set_ne (by decide)]; exact hp8
    have hp_16 : xs_11[9]? = some (.ref cl) := by rw [exs_11, List.getElem?_set_ne (by decide)]; exact hp9
    have hp_17 : xs_11[13]? = some (.int 0) := by rw [exs_11, List.getElem?_set_ne (by decide)]; exact hp13
    have hp_18 : xs_11[24]? = some (.int 0) := by rw [exs_11, List.getElem?_set_ne (by decide)]; exact hp24
    have hp_19 : xs_11[25]? = some (.int 0) := by rw [exs_11, List.getElem?_set_ne (by decide)]; exact hp25
    have hp_20 : xs_11[29]? = some (.int 0) := by rw [exs_11, List.getElem?_set_ne (by decide)]; exact hp29
    have hp_21 : xs_11[31]? = some (.int (-1)) := by rw [exs_11, List.getElem?_set_ne (by decide)]; exact hp31
    have hp_22 : xs_11[43]? = some (.int 0) := by rw [exs_11, List.getElem?_set_ne (by decide)]; exact hp43
    have hp_23 : xs_11[53]? = some (.int 0) := by rw [exs_11, List.getElem?_set_ne (by decide)]; exact hp53
    have hp_24 : xs_11[32]? = some (.int v32) := by rw [exs_11, List.getElem?_set_ne (by decide)]; exact hp32
    have hp_25 : xs_11[33]? = some (.int v33) := by rw [exs_11, List.getElem?_set_ne (by decide)]; exact hp33
    have hp_26 : xs_11[34]? = some (.int v34) := by rw [exs_11, List.getElem?_set_ne (by decide)]; exact hp34
    have hp_27 : xs_11[0]? = some (.int 1) := by rw [exs_11, List.getElem?_set_self (by rw [hxs]; decide)]
    have htp := htp.ext x_10 (Ne.symm (py_ne_arr hh htp))
    have hcd := hcd.ext x_10 (Ne.symm (py_ne_arr hh hcd))
    have hcl := hcl.ext x_10 (Ne.symm (py_ne_arr hh hcl))
    refine lv_aload_n G.1 G.2.1 dX12_level_27 rfl (lv_at hl 0 rfl) ?_
    refine py_get (C := RX12) (T := TX12) (N := 54) (k := 0) (v := .int 1) G hw in_X12_level_X12 rfl h_9 (by decide) (by decide +kernel) hp_27 dX12_level_28 ?_
    refine lv_iconst (v := 1) G.1 G.2.1 dX12_level_31 (by decide) ?_
    refine lv_icmp_ne (tgt := 37) G.1 G.2.1 dX12_level_32 (by decide) (fun c_28 => ?_) (fun c_28 => ?_)
    · skip
      exact absurd c_28 (by decide)
    · skip
      refine lv_iconst (v := 0) G.1 G.2.1 dX12_level_35 (by decide) ?_
      exact py_iret G hr rfl hlk hw ⟨rfl, _, h_9, hp_27⟩ dX12_level_36
  · skip
    exact absurd c_6 (by decide)

def w_X12_thrown : List Cond := .code yX12_thrown cX12_thrown 1 (some .int) :: ([Cond.fieldLink RX12 117 "HeadYearModel" "thrown" "I"] ++ (u_ws RX12 TX12 54 ++ ([])))
theorem in_X12_thrown_X12 : ∀ w ∈ u_ws RX12 TX12 54, w ∈ w_X12_thrown := fun _ h => List.mem_cons_of_mem _ (List.mem_append_right _ (List.mem_append_left _ h))
set_option maxHeartbeats 4000000 in
set_option maxRecDepth 100000 in
theorem c_X12_thrown (l : Launch) (E : py_E) (L : List Nat) (f : py_F) (sz : Nat) (h : Nat) (xs : List Value) (hh : py_at L f h (.inr (12, xs))) (hp0 : xs[0]? = some (.int 1)) : Met l yX12_thrown w_X12_thrown ({ frames := 0, cells := 0, slots := 0, locals := 0 }) (py_Pc E [.ref h] L f sz) (py_Qi E L f sz (fun r _ _ => r = 1)) 0 0 (va_A (va_pl L f) sz) := by
  refine Met.ofW (cc := cX12_thrown) (maxL := 1) (ret := (some .int)) (by decide) rfl ?_
  intro p e s m args below meth c s₁ B hml hv
  obtain ⟨rfl, rfl, hw⟩ := py_start hv
  have G : CallFix p m c cX12_thrown 1 s _ w_X12_thrown RX12 := ⟨B.exec, B.bytes, hml, findClass_of_methodNamed B.named, atoms_spec (ws := w_X12_thrown) B.pre⟩
  have hr := B.returns
  have hlk := B.notSynchronized
  have hl := lv_entry ([.ref h]) (n := 1) (Nat.le_of_ble_eq_true rfl)
  rw [lg_entry_eq]
  generalize (lg_sl ([.ref h]) ++ List.replicate (1 - (lg_sl ([.ref h])).length) Slot.unset).toArray = ls at hl ⊢
  have hl : lv_has ls 1 [(0, .ref h)] := hl
  refine lv_aload_n G.1 G.2.1 dX12_thrown_0 rfl (lv_at hl 0 rfl) ?_
  refine py_get (C := RX12) (T := TX12) (N := 54) (k := 0) (v := .int 1) G hw in_X12_thrown_X12 rfl hh (by decide) (by decide +kernel) hp0 dX12_thrown_1 ?_
  exact py_iret G hr rfl hlk hw rfl dX12_thrown_4
