theorem dX12_atom_0 : decode cX12_atom 0 = .ok (.aload_n 0, 1) := by decide +kernel
theorem dX12_atom_1 : decode cX12_atom 1 = .ok (.invokevirtual 146, 3) := by decide +kernel
theorem dX12_atom_4 : decode cX12_atom 4 = .ok (.istore_n 1, 1) := by decide +kernel
theorem dX12_atom_5 : decode cX12_atom 5 = .ok (.iload_n 1, 1) := by decide +kernel
theorem dX12_atom_6 : decode cX12_atom 6 = .ok (.invokestatic 149, 3) := by decide +kernel
theorem dX12_atom_9 : decode cX12_atom 9 = .ok (.ifCond .eq 15, 3) := by decide +kernel
theorem dX12_atom_12 : decode cX12_atom 12 = .ok (.aload_n 0, 1) := by decide +kernel
theorem dX12_atom_13 : decode cX12_atom 13 = .ok (.iconst 0, 1) := by decide +kernel
theorem dX12_atom_14 : decode cX12_atom 14 = .ok (.aload_n 0, 1) := by decide +kernel
theorem dX12_atom_15 : decode cX12_atom 15 = .ok (.invokevirtual 153, 3) := by decide +kernel
theorem dX12_atom_18 : decode cX12_atom 18 = .ok (.invokevirtual 156, 3) := by decide +kernel
theorem dX12_atom_21 : decode cX12_atom 21 = .ok (.goto 68, 3) := by decide +kernel
theorem dX12_atom_24 : decode cX12_atom 24 = .ok (.iload_n 1, 1) := by decide +kernel
theorem dX12_atom_25 : decode cX12_atom 25 = .ok (.invokestatic 160, 3) := by decide +kernel
theorem dX12_atom_28 : decode cX12_atom 28 = .ok (.iconst (-1), 1) := by decide +kernel
theorem dX12_atom_29 : decode cX12_atom 29 = .ok (.if_icmp .eq 25, 3) := by decide +kernel
theorem dX12_atom_32 : decode cX12_atom 32 = .ok (.aload_n 0, 1) := by decide +kernel
theorem dX12_atom_33 : decode cX12_atom 33 = .ok (.dup, 1) := by decide +kernel
theorem dX12_atom_34 : decode cX12_atom 34 = .ok (.getfield 127, 3) := by decide +kernel
theorem dX12_atom_37 : decode cX12_atom 37 = .ok (.iconst 1, 1) := by decide +kernel
theorem dX12_atom_38 : decode cX12_atom 38 = .ok (.iadd, 1) := by decide +kernel
theorem dX12_atom_39 : decode cX12_atom 39 = .ok (.putfield 127, 3) := by decide +kernel
theorem dX12_atom_42 : decode cX12_atom 42 = .ok (.aload_n 0, 1) := by decide +kernel
theorem dX12_atom_43 : decode cX12_atom 43 = .ok (.iconst 1, 1) := by decide +kernel
theorem dX12_atom_44 : decode cX12_atom 44 = .ok (.iload_n 1, 1) := by decide +kernel
theorem dX12_atom_45 : decode cX12_atom 45 = .ok (.invokestatic 160, 3) := by decide +kernel
theorem dX12_atom_48 : decode cX12_atom 48 = .ok (.invokevirtual 156, 3) := by decide +kernel
theorem dX12_atom_51 : decode cX12_atom 51 = .ok (.goto 38, 3) := by decide +kernel
theorem dX12_atom_54 : decode cX12_atom 54 = .ok (.iload_n 1, 1) := by decide +kernel
theorem dX12_atom_55 : decode cX12_atom 55 = .ok (.bipush 91, 2) := by decide +kernel
theorem dX12_atom_57 : decode cX12_atom 57 = .ok (.if_icmp .ne 28, 3) := by decide +kernel
theorem dX12_atom_60 : decode cX12_atom 60 = .ok (.aload_n 0, 1) := by decide +kernel
theorem dX12_atom_61 : decode cX12_atom 61 = .ok (.invokevirtual 164, 3) := by decide +kernel
theorem dX12_atom_64 : decode cX12_atom 64 = .ok (.aload_n 0, 1) := by decide +kernel
theorem dX12_atom_65 : decode cX12_atom 65 = .ok (.getfield 134, 3) := by decide +kernel
theorem dX12_atom_68 : decode cX12_atom 68 = .ok (.iconst (-1), 1) := by decide +kernel
theorem dX12_atom_69 : decode cX12_atom 69 = .ok (.if_icmp .ne 20, 3) := by decide +kernel
theorem dX12_atom_72 : decode cX12_atom 72 = .ok (.aload_n 0, 1) := by decide +kernel
theorem dX12_atom_73 : decode cX12_atom 73 = .ok (.invokevirtual 167, 3) := by decide +kernel
theorem dX12_atom_76 : decode cX12_atom 76 = .ok (.aload_n 0, 1) := by decide +kernel
theorem dX12_atom_77 : decode cX12_atom 77 = .ok (.bipush 93, 2) := by decide +kernel
theorem dX12_atom_79 : decode cX12_atom 79 = .ok (.invokevirtual 170, 3) := by decide +kernel
theorem dX12_atom_82 : decode cX12_atom 82 = .ok (.goto 7, 3) := by decide +kernel
theorem dX12_atom_85 : decode cX12_atom 85 = .ok (.aload_n 0, 1) := by decide +kernel
theorem dX12_atom_86 : decode cX12_atom 86 = .ok (.invokevirtual 143, 3) := by decide +kernel
theorem dX12_atom_89 : decode cX12_atom 89 = .ok (.return_, 1) := by decide +kernel
theorem dX12_compare_0 : decode cX12_compare 0 = .ok (.aload_n 0, 1) := by decide +kernel
theorem dX12_compare_1 : decode cX12_compare 1 = .ok (.getfield 134, 3) := by decide +kernel
theorem dX12_compare_4 : decode cX12_compare 4 = .ok (.iconst (-1), 1) := by decide +kernel
theorem dX12_compare_5 : decode cX12_compare 5 = .ok (.if_icmp .ne 10, 3) := by decide +kernel
theorem dX12_compare_8 : decode cX12_compare 8 = .ok (.aload_n 0, 1) := by decide +kernel
theorem dX12_compare_9 : decode cX12_compare 9 = .ok (.invokevirtual 146, 3) := by decide +kernel
theorem dX12_compare_12 : decode cX12_compare 12 = .ok (.goto 4, 3) := by decide +kernel
theorem dX12_compare_15 : decode cX12_compare 15 = .ok (.iconst (-1), 1) := by decide +kernel
theorem dX12_compare_16 : decode cX12_compare 16 = .ok (.istore_n 1, 1) := by decide +kernel
theorem dX12_compare_17 : decode cX12_compare 17 = .ok (.iload_n 1, 1) := by decide +kernel
theorem dX12_compare_18 : decode cX12_compare 18 = .ok (.invokestatic 180, 3) := by decide +kernel
theorem dX12_compare_21 : decode cX12_compare 21 = .ok (.ifCond .ne 8, 3) := by decide +kernel
theorem dX12_compare_24 : decode cX12_compare 24 = .ok (.aload_n 0, 1) := by decide +kernel
theorem dX12_compare_25 : decode cX12_compare 25 = .ok (.invokevirtual 143, 3) := by decide +kernel
theorem dX12_compare_28 : decode cX12_compare 28 = .ok (.return_, 1) := by decide +kernel
theorem dX12_compare_29 : decode cX12_compare 29 = .ok (.aload_n 0, 1) := by decide +kernel
theorem dX12_compare_30 : decode cX12_compare 30 = .ok (.dup, 1) := by decide +kernel
theorem dX12_compare_31 : decode cX12_compare 31 = .ok (.getfield 127, 3) := by decide +kernel
theorem dX12_compare_34 : decode cX12_compare 34 = .ok (.iconst 1, 1) := by decide +kernel
theorem dX12_compare_35 : decode cX12_compare 35 = .ok (.iadd, 1) := by decide +kernel
theorem dX12_compare_36 : decode cX12_compare 36 = .ok (.putfield 127, 3) := by decide +kernel
theorem dX12_compare_39 : decode cX12_compare 39 = .ok (.aload_n 0, 1) := by decide +kernel
theorem dX12_compare_40 : decode cX12_compare 40 = .ok (.invokevirtual 167, 3) := by decide +kernel
theorem dX12_compare_43 : decode cX12_compare 43 = .ok (.aload_n 0, 1) := by decide +kernel
theorem dX12_compare_44 : decode cX12_compare 44 = .ok (.iload_n 1, 1) := by decide +kernel
theorem dX12_compare_45 : decode cX12_compare 45 = .ok (.bipush 61, 2) := by decide +kernel
theorem dX12_compare_47 : decode cX12_compare 47 = .ok (.if_icmp .ne 8, 3) := by decide +kernel
theorem dX12_compare_50 : decode cX12_compare 50 = .ok (.bipush 6, 2) := by decide +kernel
theorem dX12_compare_52 : decode cX12_compare 52 = .ok (.goto 16, 3) := by decide +kernel
theorem dX12_compare_55 : decode cX12_compare 55 = .ok (.iload_n 1, 1) := by decide +kernel
theorem dX12_compare_56 : decode cX12_compare 56 = .ok (.bipush 60, 2) := by decide +kernel
theorem dX12_compare_58 : decode cX12_compare 58 = .ok (.if_icmp .ne 8, 3) := by decide +kernel
theorem dX12_compare_61 : decode cX12_compare 61 = .ok (.bipush 7, 2) := by decide +kernel
theorem dX12_compare_63 : decode cX12_compare 63 = .ok (.goto 5, 3) := by decide +kernel
theorem dX12_compare_66 : decode cX12_compare 66 = .ok (.bipush 8, 2) := by decide +kernel
theorem dX12_compare_68 : decode cX12_compare 68 = .ok (.iconst 0, 1) := by decide +kernel
theorem dX12_compare_69 : decode cX12_compare 69 = .ok (.invokevirtual 156, 3) := by decide +kernel
theorem dX12_compare_72 : decode cX12_compare 72 = .ok (.return_, 1) := by decide +kernel
theorem dX12_condition_0 : decode cX12_condition 0 = .ok (.aload_n 0, 1) := by decide +kernel
theorem dX12_condition_1 : decode cX12_condition 1 = .ok (.invokevirtual 183, 3) := by decide +kernel
theorem dX12_condition_4 : decode cX12_condition 4 = .ok (.aload_n 0, 1) := by decide +kernel
theorem dX12_condition_5 : decode cX12_condition 5 = .ok (.invokevirtual 192, 3) := by decide +kernel
theorem dX12_condition_8 : decode cX12_condition 8 = .ok (.aload_n 0, 1) := by decide +kernel
theorem dX12_condition_9 : decode cX12_condition 9 = .ok (.invokevirtual 195, 3) := by decide +kernel
theorem dX12_condition_12 : decode cX12_condition 12 = .ok (.return_, 1) := by decide +kernel
theorem dX12_goOnAnd_0 : decode cX12_goOnAnd 0 = .ok (.aload_n 0, 1) := by decide +kernel
theorem dX12_goOnAnd_1 : decode cX12_goOnAnd 1 = .ok (.getfield 134, 3) := by decide +kernel
theorem dX12_goOnAnd_4 : decode cX12_goOnAnd 4 = .ok (.iconst (-1), 1) := by decide +kernel
theorem dX12_goOnAnd_5 : decode cX12_goOnAnd 5 = .ok (.if_icmp .ne 36, 3) := by decide +kernel
theorem dX12_goOnAnd_8 : decode cX12_goOnAnd 8 = .ok (.aload_n 0, 1) := by decide +kernel
theorem dX12_goOnAnd_9 : decode cX12_goOnAnd 9 = .ok (.invokevirtual 146, 3) := by decide +kernel
theorem dX12_goOnAnd_12 : decode cX12_goOnAnd 12 = .ok (.bipush 38, 2) := by decide +kernel
theorem dX12_goOnAnd_14 : decode cX12_goOnAnd 14 = .ok (.if_icmp .ne 27, 3) := by decide +kernel
theorem dX12_goOnAnd_17 : decode cX12_goOnAnd 17 = .ok (.aload_n 0, 1) := by decide +kernel
theorem dX12_goOnAnd_18 : decode cX12_goOnAnd 18 = .ok (.dup, 1) := by decide +kernel
theorem dX12_goOnAnd_19 : decode cX12_goOnAnd 19 = .ok (.getfield 127, 3) := by decide +kernel
theorem dX12_goOnAnd_22 : decode cX12_goOnAnd 22 = .ok (.iconst 1, 1) := by decide +kernel
theorem dX12_goOnAnd_23 : decode cX12_goOnAnd 23 = .ok (.iadd, 1) := by decide +kernel
theorem dX12_goOnAnd_24 : decode cX12_goOnAnd 24 = .ok (.putfield 127, 3) := by decide +kernel
theorem dX12_goOnAnd_27 : decode cX12_goOnAnd 27 = .ok (.aload_n 0, 1) := by decide +kernel
theorem dX12_goOnAnd_28 : decode cX12_goOnAnd 28 = .ok (.invokevirtual 183, 3) := by decide +kernel
theorem dX12_goOnAnd_31 : decode cX12_goOnAnd 31 = .ok (.aload_n 0, 1) := by decide +kernel
theorem dX12_goOnAnd_32 : decode cX12_goOnAnd 32 = .ok (.bipush 10, 2) := by decide +kernel
theorem dX12_goOnAnd_34 : decode cX12_goOnAnd 34 = .ok (.iconst 0, 1) := by decide +kernel
theorem dX12_goOnAnd_35 : decode cX12_goOnAnd 35 = .ok (.invokevirtual 156, 3) := by decide +kernel
theorem dX12_goOnAnd_38 : decode cX12_goOnAnd 38 = .ok (.goto (-38), 3) := by decide +kernel
theorem dX12_goOnAnd_41 : decode cX12_goOnAnd 41 = .ok (.return_, 1) := by decide +kernel
theorem dX12_goOnOr_0 : decode cX12_goOnOr 0 = .ok (.aload_n 0, 1) := by decide +kernel
theorem dX12_goOnOr_1 : decode cX12_goOnOr 1 = .ok (.getfield 134, 3) := by decide +kernel
theorem dX12_goOnOr_4 : decode cX12_goOnOr 4 = .ok (.iconst (-1), 1) := by decide +kernel
theorem dX12_goOnOr_5 : decode cX12_goOnOr 5 = .ok (.if_icmp .ne 40, 3) := by decide +kernel
theorem dX12_goOnOr_8 : decode cX12_goOnOr 8 = .ok (.aload_n 0, 1) := by decide +kernel
theorem dX12_goOnOr_9 : decode cX12_goOnOr 9 = .ok (.invokevirtual 146, 3) := by decide +kernel
theorem dX12_goOnOr_12 : decode cX12_goOnOr 12 = .ok (.bipush 124, 2) := by decide +kernel
theorem dX12_goOnOr_14 : decode cX12_goOnOr 14 = .ok (.if_icmp .ne 31, 3) := by decide +kernel
theorem dX12_goOnOr_17 : decode cX12_goOnOr 17 = .ok (.aload_n 0, 1) := by decide +kernel
theorem dX12_goOnOr_18 : decode cX12_goOnOr 18 = .ok (.dup, 1) := by decide +kernel
theorem dX12_goOnOr_19 : decode cX12_goOnOr 19 = .ok (.getfield 127, 3) := by decide +kernel
theorem dX12_goOnOr_22 : decode cX12_goOnOr 22 = .ok (.iconst 1, 1) := by decide +kernel
theorem dX12_goOnOr_23 : decode cX12_goOnOr 23 = .ok (.iadd, 1) := by decide +kernel
theorem dX12_goOnOr_24 : decode cX12_goOnOr 24 = .ok (.putfield 127, 3) := by decide +kernel
theorem dX12_goOnOr_27 : decode cX12_goOnOr 27 = .ok (.aload_n 0, 1) := by decide +kernel
theorem dX12_goOnOr_28 : decode cX12_goOnOr 28 = .ok (.invokevirtual 183, 3) := by decide +kernel
theorem dX12_goOnOr_31 : decode cX12_goOnOr 31 = .ok (.aload_n 0, 1) := by decide +kernel
theorem dX12_goOnOr_32 : decode cX12_goOnOr 32 = .ok (.invokevirtual 192, 3) := by decide +kernel
theorem dX12_goOnOr_35 : decode cX12_goOnOr 35 = .ok (.aload_n 0, 1) := by decide +kernel
theorem dX12_goOnOr_36 : decode cX12_goOnOr 36 = .ok (.bipush 11, 2) := by decide +kernel
theorem dX12_goOnOr_38 : decode cX12_goOnOr 38 = .ok (.iconst 0, 1) := by decide +kernel
theorem dX12_goOnOr_39 : decode cX12_goOnOr 39 = .ok (.invokevirtual 156, 3) := by decide +kernel
theorem dX12_goOnOr_42 : decode cX12_goOnOr 42 = .ok (.goto (-42), 3) := by decide +kernel
theorem dX12_goOnOr_45 : decode cX12_goOnOr 45 = .ok (.return_, 1) := by decide +kernel
theorem dX12_sum_0 : decode cX12_sum 0 = .ok (.aload_n 0, 1) := by decide +kernel
theorem dX12_sum_1 : decode cX12_sum 1 = .ok (.invokevirtual 177, 3) := by decide +kernel
theorem dX12_sum_4 : decode cX12_sum 4 = .ok (.aload_n 0, 1) := by decide +kernel
theorem dX12_sum_5 : decode cX12_sum 5 = .ok (.getfield 134, 3) := by decide +kernel
theorem dX12_sum_8 : decode cX12_sum 8 = .ok (.iconst (-1), 1) := by decide +kernel
theorem dX12_sum_9 : decode cX12_sum 9 = .ok (.if_icmp .ne 10, 3) := by decide +kernel
theorem dX12_sum_12 : decode cX12_sum 12 = .ok (.aload_n 0, 1) := by decide +kernel
theorem dX12_sum_13 : decode cX12_sum 13 = .ok (.invokevirtual 146, 3) := by decide +kernel
theorem dX12_sum_16 : decode cX12_sum 16 = .ok (.goto 4, 3) := by decide +kernel
theorem dX12_sum_19 : decode cX12_sum 19 = .ok (.iconst (-1), 1) := by decide +kernel
theorem dX12_sum_20 : decode cX12_sum 20 = .ok (.istore_n 1, 1) := by decide +kernel
theorem dX12_sum_21 : decode cX12_sum 21 = .ok (.iload_n 1, 1) := by decide +kernel
theorem dX12_sum_22 : decode cX12_sum 22 = .ok (.bipush 43, 2) := by decide +kernel
theorem dX12_sum_24 : decode cX12_sum 24 = .ok (.if_icmp .eq 9, 3) := by decide +kernel
theorem dX12_sum_27 : decode cX12_sum 27 = .ok (.iload_n 1, 1) := by decide +kernel
theorem dX12_sum_28 : decode cX12_sum 28 = .ok (.bipush 45, 2) := by decide +kernel
theorem dX12_sum_30 : decode cX12_sum 30 = .ok (.if_icmp .ne 53, 3) := by decide +kernel
theorem dX12_sum_33 : decode cX12_sum 33 = .ok (.aload_n 0, 1) := by decide +kernel
theorem dX12_sum_34 : decode cX12_sum 34 = .ok (.dup, 1) := by decide +kernel
theorem dX12_sum_35 : decode cX12_sum 35 = .ok (.getfield 127, 3) := by decide +kernel
theorem dX12_sum_38 : decode cX12_sum 38 = .ok (.iconst 1, 1) := by decide +kernel
theorem dX12_sum_39 : decode cX12_sum 39 = .ok (.iadd, 1) := by decide +kernel
theorem dX12_sum_40 : decode cX12_sum 40 = .ok (.putfield 127, 3) := by decide +kernel
theorem dX12_sum_43 : decode cX12_sum 43 = .ok (.aload_n 0, 1) := by decide +kernel
theorem dX12_sum_44 : decode cX12_sum 44 = .ok (.invokevirtual 177, 3) := by decide +kernel
theorem dX12_sum_47 : decode cX12_sum 47 = .ok (.aload_n 0, 1) := by decide +kernel
theorem dX12_sum_48 : decode cX12_sum 48 = .ok (.iload_n 1, 1) := by decide +kernel
theorem dX12_sum_49 : decode cX12_sum 49 = .ok (.bipush 43, 2) := by decide +kernel
theorem dX12_sum_51 : decode cX12_sum 51 = .ok (.if_icmp .ne 7, 3) := by decide +kernel
theorem dX12_sum_54 : decode cX12_sum 54 = .ok (.iconst 2, 1) := by decide +kernel
theorem dX12_sum_55 : decode cX12_sum 55 = .ok (.goto 4, 3) := by decide +kernel
theorem dX12_sum_58 : decode cX12_sum 58 = .ok (.iconst 3, 1) := by decide +kernel
theorem dX12_sum_59 : decode cX12_sum 59 = .ok (.iconst 0, 1) := by decide +kernel
theorem dX12_sum_60 : decode cX12_sum 60 = .ok (.invokevirtual 156, 3) := by decide +kernel
theorem dX12_sum_63 : decode cX12_sum 63 = .ok (.aload_n 0, 1) := by decide +kernel
theorem dX12_sum_64 : decode cX12_sum 64 = .ok (.getfield 134, 3) := by decide +kernel
theorem dX12_sum_67 : decode cX12_sum 67 = .ok (.iconst (-1), 1) := by decide +kernel
theorem dX12_sum_68 : decode cX12_sum 68 = .ok (.if_icmp .ne 10, 3) := by decide +kernel
theorem dX12_sum_71 : decode cX12_sum 71 = .ok (.aload_n 0, 1) := by decide +kernel
theorem dX12_sum_72 : decode cX12_sum 72 = .ok (.invokevirtual 146, 3) := by decide +kernel
theorem dX12_sum_75 : decode cX12_sum 75 = .ok (.goto 4, 3) := by decide +kernel
theorem dX12_sum_78 : decode cX12_sum 78 = .ok (.iconst (-1), 1) := by decide +kernel
theorem dX12_sum_79 : decode cX12_sum 79 = .ok (.istore_n 1, 1) := by decide +kernel
theorem dX12_sum_80 : decode cX12_sum 80 = .ok (.goto (-59), 3) := by decide +kernel
theorem dX12_sum_83 : decode cX12_sum 83 = .ok (.return_, 1) := by decide +kernel
theorem dX12_term_0 : decode cX12_term 0 = .ok (.aload_n 0, 1) := by decide +kernel
theorem dX12_term_1 : decode cX12_term 1 = .ok (.invokevirtual 174, 3) := by decide +kernel
theorem dX12_term_4 : decode cX12_term 4 = .ok (.aload_n 0, 1) := by decide +kernel
theorem dX12_term_5 : decode cX12_term 5 = .ok (.getfield 134, 3) := by decide +kernel
theorem dX12_term_8 : decode cX12_term 8 = .ok (.iconst (-1), 1) := by decide +kernel
theorem dX12_term_9 : decode cX12_term 9 = .ok (.if_icmp .ne 10, 3) := by decide +kernel
theorem dX12_term_12 : decode cX12_term 12 = .ok (.aload_n 0, 1) := by decide +kernel
theorem dX12_term_13 : decode cX12_term 13 = .ok (.invokevirtual 146, 3) := by decide +kernel
theorem dX12_term_16 : decode cX12_term 16 = .ok (.goto 4, 3) := by decide +kernel
theorem dX12_term_19 : decode cX12_term 19 = .ok (.iconst (-1), 1) := by decide +kernel
theorem dX12_term_20 : decode cX12_term 20 = .ok (.istore_n 1, 1) := by decide +kernel
theorem dX12_term_21 : decode cX12_term 21 = .ok (.iload_n 1, 1) := by decide +kernel
theorem dX12_term_22 : decode cX12_term 22 = .ok (.bipush 42, 2) := by decide +kernel
theorem dX12_term_24 : decode cX12_term 24 = .ok (.if_icmp .eq 9, 3) := by decide +kernel
theorem dX12_term_27 : decode cX12_term 27 = .ok (.iload_n 1, 1) := by decide +kernel
theorem dX12_term_28 : decode cX12_term 28 = .ok (.bipush 47, 2) := by decide +kernel
theorem dX12_term_30 : decode cX12_term 30 = .ok (.if_icmp .ne 53, 3) := by decide +kernel
theorem dX12_term_33 : decode cX12_term 33 = .ok (.aload_n 0, 1) := by decide +kernel
theorem dX12_term_34 : decode cX12_term 34 = .ok (.dup, 1) := by decide +kernel
theorem dX12_term_35 : decode cX12_term 35 = .ok (.getfield 127, 3) := by decide +kernel
theorem dX12_term_38 : decode cX12_term 38 = .ok (.iconst 1, 1) := by decide +kernel
theorem dX12_term_39 : decode cX12_term 39 = .ok (.iadd, 1) := by decide +kernel
theorem dX12_term_40 : decode cX12_term 40 = .ok (.putfield 127, 3) := by decide +kernel
theorem dX12_term_43 : decode cX12_term 43 = .ok (.aload_n 0, 1) := by decide +kernel
theorem dX12_term_44 : decode cX12_term 44 = .ok (.invokevirtual 174, 3) := by decide +kernel
theorem dX12_term_47 : decode cX12_term 47 = .ok (.aload_n 0, 1) := by decide +kernel
theorem dX12_term_48 : decode cX12_term 48 = .ok (.iload_n 1, 1) := by decide +kernel
theorem dX12_term_49 : decode cX12_term 49 = .ok (.bipush 42, 2) := by decide +kernel
theorem dX12_term_51 : decode cX12_term 51 = .ok (.if_icmp .ne 7, 3) := by decide +kernel
theorem dX12_term_54 : decode cX12_term 54 = .ok (.iconst 4, 1) := by decide +kernel
theorem dX12_term_55 : decode cX12_term 55 = .ok (.goto 4, 3) := by decide +kernel
theorem dX12_term_58 : decode cX12_term 58 = .ok (.iconst 5, 1) := by decide +kernel
theorem dX12_term_59 : decode cX12_term 59 = .ok (.iconst 0, 1) := by decide +kernel
theorem dX12_term_60 : decode cX12_term 60 = .ok (.invokevirtual 156, 3) := by decide +kernel
theorem dX12_term_63 : decode cX12_term 63 = .ok (.aload_n 0, 1) := by decide +kernel
theorem dX12_term_64 : decode cX12_term 64 = .ok (.getfield 134, 3) := by decide +kernel
theorem dX12_term_67 : decode cX12_term 67 = .ok (.iconst (-1), 1) := by decide +kernel
theorem dX12_term_68 : decode cX12_term 68 = .ok (.if_icmp .ne 10, 3) := by decide +kernel
theorem dX12_term_71 : decode cX12_term 71 = .ok (.aload_n 0, 1) := by decide +kernel
theorem dX12_term_72 : decode cX12_term 72 = .ok (.invokevirtual 146, 3) := by decide +kernel
theorem dX12_term_75 : decode cX12_term 75 = .ok (.goto 4, 3) := by decide +kernel
theorem dX12_term_78 : decode cX12_term 78 = .ok (.iconst (-1), 1) := by decide +kernel
theorem dX12_term_79 : decode cX12_term 79 = .ok (.istore_n 1, 1) := by decide +kernel
theorem dX12_term_80 : decode cX12_term 80 = .ok (.goto (-59), 3) := by decide +kernel
theorem dX12_term_83 : decode cX12_term 83 = .ok (.return_, 1) := by decide +kernel
theorem dX12_unit_0 : decode cX12_unit 0 = .ok (.aload_n 0, 1) := by decide +kernel
theorem dX12_unit_1 : decode cX12_unit 1 = .ok (.invokevirtual 146, 3) := by decide +kernel
theorem dX12_unit_4 : decode cX12_unit 4 = .ok (.istore_n 1, 1) := by decide +kernel
theorem dX12_unit_5 : decode cX12_unit 5 = .ok (.iload_n 1, 1) := by decide +kernel
theorem dX12_unit_6 : decode cX12_unit 6 = .ok (.bipush 33, 2) := by decide +kernel
theorem dX12_unit_8 : decode cX12_unit 8 = .ok (.if_icmp .ne 39, 3) := by decide +kernel
theorem dX12_unit_11 : decode cX12_unit 11 = .ok (.aload_n 0, 1) := by decide +kernel
theorem dX12_unit_12 : decode cX12_unit 12 = .ok (.invokevirtual 164, 3) := by decide +kernel
theorem dX12_unit_15 : decode cX12_unit 15 = .ok (.aload_n 0, 1) := by decide +kernel
theorem dX12_unit_16 : decode cX12_unit 16 = .ok (.getfield 134, 3) := by decide +kernel
theorem dX12_unit_19 : decode cX12_unit 19 = .ok (.iconst (-1), 1) := by decide +kernel
theorem dX12_unit_20 : decode cX12_unit 20 = .ok (.if_icmp .ne 74, 3) := by decide +kernel
theorem dX12_unit_23 : decode cX12_unit 23 = .ok (.aload_n 0, 1) := by decide +kernel
theorem dX12_unit_24 : decode cX12_unit 24 = .ok (.invokevirtual 183, 3) := by decide +kernel
theorem dX12_unit_27 : decode cX12_unit 27 = .ok (.aload_n 0, 1) := by decide +kernel
theorem dX12_unit_28 : decode cX12_unit 28 = .ok (.bipush 9, 2) := by decide +kernel
theorem dX12_unit_30 : decode cX12_unit 30 = .ok (.iconst 0, 1) := by decide +kernel
theorem dX12_unit_31 : decode cX12_unit 31 = .ok (.invokevirtual 156, 3) := by decide +kernel
theorem dX12_unit_34 : decode cX12_unit 34 = .ok (.aload_n 0, 1) := by decide +kernel
theorem dX12_unit_35 : decode cX12_unit 35 = .ok (.dup, 1) := by decide +kernel
theorem dX12_unit_36 : decode cX12_unit 36 = .ok (.getfield 140, 3) := by decide +kernel
theorem dX12_unit_39 : decode cX12_unit 39 = .ok (.iconst 1, 1) := by decide +kernel
theorem dX12_unit_40 : decode cX12_unit 40 = .ok (.isub, 1) := by decide +kernel
theorem dX12_unit_41 : decode cX12_unit 41 = .ok (.putfield 140, 3) := by decide +kernel
theorem dX12_unit_44 : decode cX12_unit 44 = .ok (.goto 50, 3) := by decide +kernel
theorem dX12_unit_47 : decode cX12_unit 47 = .ok (.iload_n 1, 1) := by decide +kernel
theorem dX12_unit_48 : decode cX12_unit 48 = .ok (.bipush 40, 2) := by decide +kernel
theorem dX12_unit_50 : decode cX12_unit 50 = .ok (.if_icmp .ne 28, 3) := by decide +kernel
theorem dX12_unit_53 : decode cX12_unit 53 = .ok (.aload_n 0, 1) := by decide +kernel
theorem dX12_unit_54 : decode cX12_unit 54 = .ok (.invokevirtual 164, 3) := by decide +kernel
theorem dX12_unit_57 : decode cX12_unit 57 = .ok (.aload_n 0, 1) := by decide +kernel
theorem dX12_unit_58 : decode cX12_unit 58 = .ok (.getfield 134, 3) := by decide +kernel
theorem dX12_unit_61 : decode cX12_unit 61 = .ok (.iconst (-1), 1) := by decide +kernel
theorem dX12_unit_62 : decode cX12_unit 62 = .ok (.if_icmp .ne 32, 3) := by decide +kernel
theorem dX12_unit_65 : decode cX12_unit 65 = .ok (.aload_n 0, 1) := by decide +kernel
theorem dX12_unit_66 : decode cX12_unit 66 = .ok (.invokevirtual 186, 3) := by decide +kernel
theorem dX12_unit_69 : decode cX12_unit 69 = .ok (.aload_n 0, 1) := by decide +kernel
theorem dX12_unit_70 : decode cX12_unit 70 = .ok (.bipush 41, 2) := by decide +kernel
theorem dX12_unit_72 : decode cX12_unit 72 = .ok (.invokevirtual 170, 3) := by decide +kernel
theorem dX12_unit_75 : decode cX12_unit 75 = .ok (.goto 19, 3) := by decide +kernel
theorem dX12_unit_78 : decode cX12_unit 78 = .ok (.aload_n 0, 1) := by decide +kernel
theorem dX12_unit_79 : decode cX12_unit 79 = .ok (.invokevirtual 167, 3) := by decide +kernel
theorem dX12_unit_82 : decode cX12_unit 82 = .ok (.aload_n 0, 1) := by decide +kernel
theorem dX12_unit_83 : decode cX12_unit 83 = .ok (.getfield 134, 3) := by decide +kernel
theorem dX12_unit_86 : decode cX12_unit 86 = .ok (.iconst (-1), 1) := by decide +kernel
theorem dX12_unit_87 : decode cX12_unit 87 = .ok (.if_icmp .ne 7, 3) := by decide +kernel
theorem dX12_unit_90 : decode cX12_unit 90 = .ok (.aload_n 0, 1) := by decide +kernel
theorem dX12_unit_91 : decode cX12_unit 91 = .ok (.invokevirtual 189, 3) := by decide +kernel
theorem dX12_unit_94 : decode cX12_unit 94 = .ok (.return_, 1) := by decide +kernel
def w_LQ0 : List Cond := [Cond.code yX12_atom cX12_atom 2 none, Cond.code yX12_term cX12_term 2 none, Cond.code yX12_sum cX12_sum 2 none, Cond.code yX12_compare cX12_compare 2 none, Cond.code yX12_unit cX12_unit 2 none, Cond.code yX12_goOnAnd cX12_goOnAnd 1 none, Cond.code yX12_goOnOr cX12_goOnOr 1 none, Cond.code yX12_condition cX12_condition 1 none, Cond.methodLink RX12 146 yX12_look, Cond.instanceMethod yX12_look, Cond.selects RX12 yX12_look yX12_look, Cond.initialized RX12, Cond.methodLink RX12 149 yX12_isDigit, Cond.static yX12_isDigit, Cond.methodLink RX12 160 yX12_letterOf, Cond.static yX12_letterOf, Cond.methodLink RX12 143 yX12_bad, Cond.instanceMethod yX12_bad, Cond.selects RX12 yX12_bad yX12_bad, Cond.methodLink RX12 164 yX12_opens, Cond.instanceMethod yX12_opens, Cond.selects RX12 yX12_opens yX12_opens, Cond.fieldLink RX12 134 "HeadYearModel" "wrong" "I", Cond.methodLink RX12 167 yX12_sum, Cond.instanceMethod yX12_sum, Cond.selects RX12 yX12_sum yX12_sum, Cond.methodLink RX12 170 yX12_closes, Cond.instanceMethod yX12_closes, Cond.selects RX12 yX12_closes yX12_closes, Cond.fieldLink RX12 127 "HeadYearModel" "at" "I", Cond.methodLink RX12 156 yX12_put, Cond.instanceMethod yX12_put, Cond.selects RX12 yX12_put yX12_put, Cond.methodLink RX12 153 yX12_plainNumber, Cond.instanceMethod yX12_plainNumber, Cond.selects RX12 yX12_plainNumber yX12_plainNumber, Cond.methodLink RX12 174 yX12_atom, Cond.instanceMethod yX12_atom, Cond.selects RX12 yX12_atom yX12_atom, Cond.methodLink RX12 177 yX12_term, Cond.instanceMethod yX12_term, Cond.selects RX12 yX12_term yX12_term, Cond.methodLink RX12 180 yX12_isSign, Cond.static yX12_isSign, Cond.methodLink RX12 189 yX12_compare, Cond.instanceMethod yX12_compare, Cond.selects RX12 yX12_compare yX12_compare, Cond.methodLink RX12 186 yX12_condition, Cond.instanceMethod yX12_condition, Cond.selects RX12 yX12_condition yX12_condition, Cond.methodLink RX12 183 yX12_unit, Cond.instanceMethod yX12_unit, Cond.selects RX12 yX12_unit yX12_unit, Cond.fieldLink RX12 140 "HeadYearModel" "deep" "I", Cond.methodLink RX12 192 yX12_goOnAnd, Cond.instanceMethod yX12_goOnAnd, Cond.selects RX12 yX12_goOnAnd yX12_goOnAnd, Cond.methodLink RX12 195 yX12_goOnOr, Cond.instanceMethod yX12_goOnOr, Cond.selects RX12 yX12_goOnOr yX12_goOnOr]
def w_LQ : List Cond := w_LQ0 ++ (u_ws RX12 TX12 54 ++ (w_X12_look ++ (w_X12_isDigit ++ (w_X12_letterOf ++ (w_X12_bad ++ (w_X12_opens ++ (w_X12_closes ++ (w_X12_put ++ (w_X12_plainNumber ++ (w_X12_isSign ++ ([])))))))))))
def w_X12_atom : List Cond := Cond.code yX12_atom cX12_atom 2 none :: w_LQ
def w_X12_term : List Cond := Cond.code yX12_term cX12_term 2 none :: w_LQ
def w_X12_sum : List Cond := Cond.code yX12_sum cX12_sum 2 none :: w_LQ
def w_X12_compare : List Cond := Cond.code yX12_compare cX12_compare 2 none :: w_LQ
def w_X12_unit : List Cond := Cond.code yX12_unit cX12_unit 2 none :: w_LQ
def w_X12_goOnAnd : List Cond := Cond.code yX12_goOnAnd cX12_goOnAnd 1 none :: w_LQ
def w_X12_goOnOr : List Cond := Cond.code yX12_goOnOr cX12_goOnOr 1 none :: w_LQ
def w_X12_condition : List Cond := Cond.code yX12_condition cX12_condition 1 none :: w_LQ
theorem in_X12_atom_X12 : ∀ w ∈ u_ws RX12 TX12 54, w ∈ w_X12_atom := fun _ h => List.mem_cons_of_mem _ (List.mem_append_right _ (List.mem_append_left _ h))
theorem gg_X12_atom_X12_look : GoodIn w_X12_atom w_X12_look := goodIn_sub (fun _ h => List.mem_cons_of_mem _ (List.mem_append_right _ (List.mem_append_right _ (List.mem_append_left _ h)))) (by decide +kernel)
theorem gg_X12_atom_X12_isDigit : GoodIn w_X12_atom w_X12_isDigit := goodIn_sub (fun _ h => List.mem_cons_of_mem _ (List.mem_append_right _ (List.mem_append_right _ (List.mem_append_right _ (List.mem_append_left _ h))))) (by decide +kernel)
theorem gg_X12_atom_X12_letterOf : GoodIn w_X12_atom w_X12_letterOf := goodIn_sub (fun _ h => List.mem_cons_of_mem _ (List.mem_append_right _ (List.mem_append_right _ (List.mem_append_right _ (List.mem_append_right _ (List.mem_append_left _ h)))))) (by decide +kernel)
theorem gg_X12_atom_X12_bad : GoodIn w_X12_atom w_X12_bad := goodIn_sub (fun _ h => List.mem_cons_of_mem _ (List.mem_append_right _ (List.mem_append_right _ (List.mem_append_right _ (List.mem_append_right _ (List.mem_append_right _ (List.mem_append_left _ h))))))) (by decide +kernel)
theorem gg_X12_atom_X12_opens : GoodIn w_X12_atom w_X12_opens := goodIn_sub (fun _ h => List.mem_cons_of_mem _ (List.mem_append_right _ (List.mem_append_right _ (List.mem_append_right _ (List.mem_append_right _ (List.mem_append_right _ (List.mem_append_right _ (List.mem_append_left _ h)))))))) (by decide +kernel)
theorem gg_X12_atom_X12_closes : GoodIn w_X12_atom w_X12_closes := goodIn_sub (fun _ h => List.mem_cons_of_mem _ (List.mem_append_right _ (List.mem_append_right _ (List.mem_append_right _ (List.mem_append_right _ (List.mem_append_right _ (List.mem_append_right _ (List.mem_append_right _ (List.mem_append_left _ h))))))))) (by decide +kernel)
theorem gg_X12_atom_X12_put : GoodIn w_X12_atom w_X12_put := goodIn_sub (fun _ h => List.mem_cons_of_mem _ (List.mem_append_right _ (List.mem_append_right _ (List.mem_append_right _ (List.mem_append_right _ (List.mem_append_right _ (List.mem_append_right _ (List.mem_append_right _ (List.mem_append_right _ (List.mem_append_left _ h)))))))))) (by decide +kernel)
theorem gg_X12_atom_X12_plainNumber : GoodIn w_X12_atom w_X12_plainNumber := goodIn_sub (fun _ h => List.mem_cons_of_mem _ (List.mem_append_right _ (List.mem_append_right _ (List.mem_append_right _ (List.mem_append_right _ (List.mem_append_right _ (List.mem_append_right _ (List.mem_append_right _ (List.mem_append_right _ (List.mem_append_right _ (List.mem_append_left _ h))))))))))) (by decide +kernel)
theorem gg_X12_atom_X12_isSign : GoodIn w_X12_atom w_X12_isSign := goodIn_sub (fun _ h => List.mem_cons_of_mem _ (List.mem_append_right _ (List.mem_append_right _ (List.mem_append_right _ (List.mem_append_right _ (List.mem_append_right _ (List.mem_append_right _ (List.mem_append_right _ (List.mem_append_right _ (List.mem_append_right _ (List.mem_append_right _ (List.mem_append_left _ h)))))))))))) (by decide +kernel)
theorem gg_X12_atom_X12_atom : GoodIn w_X12_atom w_X12_atom := goodIn_sub (fun _ h => (List.mem_cons.mp h).elim (fun e => e ▸ List.mem_cons_of_mem _ (List.mem_append_left _ (List.mem_of_getElem? (i := 0) rfl))) (fun h => List.mem_cons_of_mem _ h)) (by decide +kernel)
theorem gg_X12_atom_X12_term : GoodIn w_X12_atom w_X12_term := goodIn_sub (fun _ h => (List.mem_cons.mp h).elim (fun e => e ▸ List.mem_cons_of_mem _ (List.mem_append_left _ (List.mem_of_getElem? (i := 1) rfl))) (fun h => List.mem_cons_of_mem _ h)) (by decide +kernel)
theorem gg_X12_atom_X12_sum : GoodIn w_X12_atom w_X12_sum := goodIn_sub (fun _ h => (List.mem_cons.mp h).elim (fun e => e ▸ List.mem_cons_of_mem _ (List.mem_append_left _ (List.mem_of_getElem? (i := 2) rfl))) (fun h => List.mem_cons_of_mem _ h)) (by decide +kernel)
theorem gg_X12_atom_X12_compare : GoodIn w_X12_atom w_X12_compare := goodIn_sub (fun _ h => (List.mem_cons.mp h).elim (fun e => e ▸ List.mem_cons_of_mem _ (List.mem_append_left _ (List.mem_of_getElem? (i := 3) rfl))) (fun h => List.mem_cons_of_mem _ h)) (by decide +kernel)
theorem gg_X12_atom_X12_unit : GoodIn w_X12_atom w_X12_unit := goodIn_sub (fun _ h => (List.mem_cons.mp h).elim (fun e => e ▸ List.mem_cons_of_mem _ (List.mem_append_left _ (List.mem_of_getElem? (i := 4) rfl))) (fun h => List.mem_cons_of_mem _ h)) (by decide +kernel)
theorem gg_X12_atom_X12_goOnAnd : GoodIn w_X12_atom w_X12_goOnAnd := goodIn_sub (fun _ h => (List.mem_cons.mp h).elim (fun e => e ▸ List.mem_cons_of_mem _ (List.mem_append_left _ (List.mem_of_getElem? (i := 5) rfl))) (fun h => List.mem_cons_of_mem _ h)) (by decide +kernel)
theorem gg_X12_atom_X12_goOnOr : GoodIn w_X12_atom w_X12_goOnOr := goodIn_sub (fun _ h => (List.mem_cons.mp h).elim (fun e => e ▸ List.mem_cons_of_mem _ (List.mem_append_left _ (List.mem_of_getElem? (i := 6) rfl))) (fun h => List.mem_cons_of_mem _ h)) (by decide +kernel)
theorem gg_X12_atom_X12_condition : GoodIn w_X12_atom w_X12_condition := goodIn_sub (fun _ h => (List.mem_cons.mp h).elim (fun e => e ▸ List.mem_cons_of_mem _ (List.mem_append_left _ (List.mem_of_getElem? (i := 7) rfl))) (fun h => List.mem_cons_of_mem _ h)) (by decide +kernel)
theorem in_X12_term_X12 : ∀ w ∈ u_ws RX12 TX12 54, w ∈ w_X12_term := fun _ h => List.mem_cons_of_mem _ (List.mem_append_right _ (List.mem_append_left _ h))
theorem gg_X12_term_X12_look : GoodIn w_X12_term w_X12_look := goodIn_sub (fun _ h => List.mem_cons_of_mem _ (List.mem_append_right _ (List.mem_append_right _ (List.mem_append_left _ h)))) (by decide +kernel)
theorem gg_X12_term_X12_isDigit : GoodIn w_X12_term w_X12_isDigit := goodIn_sub (fun _ h => List.mem_cons_of_mem _ (List.mem_append_right _ (List.mem_append_right _ (List.mem_append_right _ (List.mem_append_left _ h))))) (by decide +kernel)
theorem gg_X12_term_X12_letterOf : GoodIn w_X12_term w_X12_letterOf := goodIn_sub (fun _ h => List.mem_cons_of_mem _ (List.mem_append_right _ (List.mem_append_right _ (List.mem_append_right _ (List.mem_append_right _ (List.mem_append_left _ h)))))) (by decide +kernel)
theorem gg_X12_term_X12_bad : GoodIn w_X12_term w_X12_bad := goodIn_sub (fun _ h => List.mem_cons_of_mem _ (List.mem_append_right _ (List.mem_append_right _ (List.mem_append_right _ (List.mem_append_right _ (List.mem_append_right _ (List.mem_append_left _ h))))))) (by decide +kernel)
theorem gg_X12_term_X12_opens : GoodIn w_X12_term w_X12_opens := goodIn_sub (fun _ h => List.mem_cons_of_mem _ (List.mem_append_right _ (List.mem_append_right _ (List.mem_append_right _ (List.mem_append_right _ (List.mem_append_right _ (List.mem_append_right _ (List.mem_append_left _ h)))))))) (by decide +kernel)
theorem gg_X12_term_X12_closes : GoodIn w_X12_term w_X12_closes := goodIn_sub (fun _ h => List.mem_cons_of_mem _ (List.mem_append_right _ (List.mem_append_right _ (List.mem_append_right _ (List.mem_append_right _ (List.mem_append_right _ (List.mem_append_right _ (List.mem_append_right _ (List.mem_append_left _ h))))))))) (by decide +kernel)
theorem gg_X12_term_X12_put : GoodIn w_X12_term w_X12_put := goodIn_sub (fun _ h => List.mem_cons_of_mem _ (List.mem_append_right _ (List.mem_append_right _ (List.mem_append_right _ (List.mem_append_right _ (List.mem_append_right _ (List.mem_append_right _ (List.mem_append_right _ (List.mem_append_right _ (List.mem_append_left _ h)))))))))) (by decide +kernel)
theorem gg_X12_term_X12_plainNumber : GoodIn w_X12_term w_X12_plainNumber := goodIn_sub (fun _ h => List.mem_cons_of_mem _ (List.mem_append_right _ (List.mem_append_right _ (List.mem_append_right _ (List.mem_append_right _ (List.mem_append_right _ (List.mem_append_right _ (List.mem_append_right _ (List.mem_append_right _ (List.mem_append_right _ (List.mem_append_left _ h))))))))))) (by decide +kernel)
theorem gg_X12_term_X12_isSign : GoodIn w_X12_term w_X12_isSign := goodIn_sub (fun _ h => List.mem_cons_of_mem _ (List.mem_append_right _ (List.mem_append_right _ (List.mem_append_right _ (List.mem_append_right _ (List.mem_append_right _ (List.mem_append_right _ (List.mem_append_right _ (List.mem_append_right _ (List.mem_append_right _ (List.mem_append_right _ (List.mem_append_left _ h)))))))))))) (by decide +kernel)
theorem gg_X12_term_X12_atom : GoodIn w_X12_term w_X12_atom := goodIn_sub (fun _ h => (List.mem_cons.mp h).elim (fun e => e ▸ List.mem_cons_of_mem _ (List.mem_append_left _ (List.mem_of_getElem? (i := 0) rfl))) (fun h => List.mem_cons_of_mem _ h)) (by decide +kernel)
theorem gg_X12_term_X12_term : GoodIn w_X12_term w_X12_term := goodIn_sub (fun _ h => (List.mem_cons.mp h).elim (fun e => e ▸ List.mem_cons_of_mem _ (List.mem_append_left _ (List.mem_of_getElem? (i := 1) rfl))) (fun h => List.mem_cons_of_mem _ h)) (by decide +kernel)
theorem gg_X12_term_X12_sum : GoodIn w_X12_term w_X12_sum := goodIn_sub (fun _ h => (List.mem_cons.mp h).elim (fun e => e ▸ List.mem_cons_of_mem _ (List.mem_append_left _ (List.mem_of_getElem? (i := 2) rfl))) (fun h => List.mem_cons_of_mem _ h)) (by decide +kernel)
theorem gg_X12_term_X12_compare : GoodIn w_X12_term w_X12_compare := goodIn_sub (fun _ h => (List.mem_cons.mp h).elim (fun e => e ▸ List.mem_cons_of_mem _ (List.mem_append_left _ (List.mem_of_getElem? (i := 3) rfl))) (fun h => List.mem_cons_of_mem _ h)) (by decide +kernel)
theorem gg_X12_term_X12_unit : GoodIn w_X12_term w_X12_unit := goodIn_sub (fun _ h => (List.mem_cons.mp h).elim (fun e => e ▸ List.mem_cons_of_mem _ (List.mem_append_left _ (List.mem_of_getElem? (i := 4) rfl))) (fun h => List.mem_cons_of_mem _ h)) (by decide +kernel)
theorem gg_X12_term_X12_goOnAnd : GoodIn w_X12_term w_X12_goOnAnd := goodIn_sub (fun _ h => (List.mem_cons.mp h).elim (fun e => e ▸ List.mem_cons_of_mem _ (List.mem_append_left _ (List.mem_of_getElem? (i := 5) rfl))) (fun h => List.mem_cons_of_mem _ h)) (by decide +kernel)
theorem gg_X12_term_X12_goOnOr : GoodIn w_X12_term w_X12_goOnOr := goodIn_sub (fun _ h => (List.mem_cons.mp h).elim (fun e => e ▸ List.mem_cons_of_mem _ (List.mem_append_left _ (List.mem_of_getElem? (i := 6) rfl))) (fun h => List.mem_cons_of_mem _ h)) (by decide +kernel)
theorem gg_X12_term_X12_condition : GoodIn w_X12_term w_X12_condition := goodIn_sub (fun _ h => (List.mem_cons.mp h).elim (fun e => e ▸ List.mem_cons_of_mem _ (List.mem_append_left _ (List.mem_of_getElem? (i := 7) rfl))) (fun h => List.mem_cons_of_mem _ h)) (by decide +kernel)
theorem in_X12_sum_X12 : ∀ w ∈ u_ws RX12 TX12 54, w ∈ w_X12_sum := fun _ h => List.mem_cons_of_mem _ (List.mem_append_right _ (List.mem_append_left _ h))
theorem gg_X12_sum_X12_look : GoodIn w_X12_sum w_X12_look := goodIn_sub (fun _ h => List.mem_cons_of_mem _ (List.mem_append_right _ (List.mem_append_right _ (List.mem_append_left _ h)))) (by decide +kernel)
theorem gg_X12_sum_X12_isDigit : GoodIn w_X12_sum w_X12_isDigit := goodIn_sub (fun _ h => List.mem_cons_of_mem _ (List.mem_append_right _ (List.mem_append_right _ (List.mem_append_right _ (List.mem_append_left _ h))))) (by decide +kernel)
theorem gg_X12_sum_X12_letterOf : GoodIn w_X12_sum w_X12_letterOf := goodIn_sub (fun _ h => List.mem_cons_of_mem _ (List.mem_append_right _ (List.mem_append_right _ (List.mem_append_right _ (List.mem_append_right _ (List.mem_append_left _ h)))))) (by decide +kernel)
theorem gg_X12_sum_X12_bad : GoodIn w_X12_sum w_X12_bad := goodIn_sub (fun _ h => List.mem_cons_of_mem _ (List.mem_append_right _ (List.mem_append_right _ (List.mem_append_right _ (List.mem_append_right _ (List.mem_append_right _ (List.mem_append_left _ h))))))) (by decide +kernel)
theorem gg_X12_sum_X12_opens : GoodIn w_X12_sum w_X12_opens := goodIn_sub (fun _ h => List.mem_cons_of_mem _ (List.mem_append_right _ (List.mem_append_right _ (List.mem_append_right _ (List.mem_append_right _ (List.mem_append_right _ (List.mem_append_right _ (List.mem_append_left _ h)))))))) (by decide +kernel)
theorem gg_X12_sum_X12_closes : GoodIn w_X12_sum w_X12_closes := goodIn_sub (fun _ h => List.mem_cons_of_mem _ (List.mem_append_right _ (List.mem_append_right _ (List.mem_append_right _ (List.mem_append_right _ (List.mem_append_right _ (List.mem_append_right _ (List.mem_append_right _ (List.mem_append_left _ h))))))))) (by decide +kernel)
theorem gg_X12_sum_X12_put : GoodIn w_X12_sum w_X12_put := goodIn_sub (fun _ h => List.mem_cons_of_mem _ (List.mem_append_right _ (List.mem_append_right _ (List.mem_append_right _ (List.mem_append_right _ (List.mem_append_right _ (List.mem_append_right _ (List.mem_append_right _ (List.mem_append_right _ (List.mem_append_left _ h)))))))))) (by decide +kernel)
theorem gg_X12_sum_X12_plainNumber : GoodIn w_X12_sum w_X12_plainNumber := goodIn_sub (fun _ h => List.mem_cons_of_mem _ (List.mem_append_right _ (List.mem_append_right _ (List.mem_append_right _ (List.mem_append_right _ (List.mem_append_right _ (List.mem_append_right _ (List.mem_append_right _ (List.mem_append_right _ (List.mem_append_right _ (List.mem_append_left _ h))))))))))) (by decide +kernel)
theorem gg_X12_sum_X12_isSign : GoodIn w_X12_sum w_X12_isSign := goodIn_sub (fun _ h => List.mem_cons_of_mem _ (List.mem_append_right _ (List.mem_append_right _ (List.mem_append_right _ (List.mem_append_right _ (List.mem_append_right _ (List.mem_append_right _ (List.mem_append_right _ (List.mem_append_right _ (List.mem_append_right _ (List.mem_append_right _ (List.mem_append_left _ h)))))))))))) (by decide +kernel)
theorem gg_X12_sum_X12_atom : GoodIn w_X12_sum w_X12_atom := goodIn_sub (fun _ h => (List.mem_cons.mp h).elim (fun e => e ▸ List.mem_cons_of_mem _ (List.mem_append_left _ (List.mem_of_getElem? (i := 0) rfl))) (fun h => List.mem_cons_of_mem _ h)) (by decide +kernel)
theorem gg_X12_sum_X12_term : GoodIn w_X12_sum w_X12_term := goodIn_sub (fun _ h => (List.mem_cons.mp h).elim (fun e => e ▸ List.mem_cons_of_mem _ (List.mem_append_left _ (List.mem_of_getElem? (i := 1) rfl))) (fun h => List.mem_cons_of_mem _ h)) (by decide +kernel)
theorem gg_X12_sum_X12_sum : GoodIn w_X12_sum w_X12_sum := goodIn_sub (fun _ h => (List.mem_cons.mp h).elim (fun e => e ▸ List.mem_cons_of_mem _ (List.mem_append_left _ (List.mem_of_getElem? (i := 2) rfl))) (fun h => List.mem_cons_of_mem _ h)) (by decide +kernel)
theorem gg_X12_sum_X12_compare : GoodIn w_X12_sum w_X12_compare := goodIn_sub (fun _ h => (List.mem_cons.mp h).elim (fun e => e ▸ List.mem_cons_of_mem _ (List.mem_append_left _ (List.mem_of_getElem? (i := 3) rfl))) (fun h => List.mem_cons_of_mem _ h)) (by decide +kernel)
theorem gg_X12_sum_X12_unit : GoodIn w_X12_sum w_X12_unit := goodIn_sub (fun _ h => (List.mem_cons.mp h).elim (fun e => e ▸ List.mem_cons_of_mem _ (List.mem_append_left _ (List.mem_of_getElem? (i := 4) rfl))) (fun h => List.mem_cons_of_mem _ h)) (by decide +kernel)
theorem gg_X12_sum_X12_goOnAnd : GoodIn w_X12_sum w_X12_goOnAnd := goodIn_sub (fun _ h => (List.mem_cons.mp h).elim (fun e => e ▸ List.mem_cons_of_mem _ (List.mem_append_left _ (List.mem_of_getElem? (i := 5) rfl))) (fun h => List.mem_cons_of_mem _ h)) (by decide +kernel)
theorem gg_X12_sum_X12_goOnOr : GoodIn w_X12_sum w_X12_goOnOr := goodIn_sub (fun _ h => (List.mem_cons.mp h).elim (fun e => e ▸ List.mem_cons_of_mem _ (List.mem_append_left _ (List.mem_of_getElem? (i := 6) rfl))) (fun h => List.mem_cons_of_mem _ h)) (by decide +kernel)
theorem gg_X12_sum_X12_condition : GoodIn w_X12_sum w_X12_condition := goodIn_sub (fun _ h => (List.mem_cons.mp h).elim (fun e => e ▸ List.mem_cons_of_mem _ (List.mem_append_left _ (List.mem_of_getElem? (i := 7) rfl))) (fun h => List.mem_cons_of_mem _ h)) (by decide +kernel)
theorem in_X12_compare_X12 : ∀ w ∈ u_ws RX12 TX12 54, w ∈ w_X12_compare := fun _ h => List.mem_cons_of_mem _ (List.mem_append_right _ (List.mem_append_left _ h))
theorem gg_X12_compare_X12_look : GoodIn w_X12_compare w_X12_look := goodIn_sub (fun _ h => List.mem_cons_of_mem _ (List.mem_append_right _ (List.mem_append_right _ (List.mem_append_left _ h)))) (by decide +kernel)
theorem gg_X12_compare_X12_isDigit : GoodIn w_X12_compare w_X12_isDigit := goodIn_sub (fun _ h => List.mem_cons_of_mem _ (List.mem_append_right _ (List.mem_append_right _ (List.mem_append_right _ (List.mem_append_left _ h))))) (by decide +kernel)
theorem gg_X12_compare_X12_letterOf : GoodIn w_X12_compare w_X12_letterOf := goodIn_sub (fun _ h => List.mem_cons_of_mem _ (List.mem_append_right _ (List.mem_append_right _ (List.mem_append_right _ (List.mem_append_right _ (List.mem_append_left _ h)))))) (by decide +kernel)
theorem gg_X12_compare_X12_bad : GoodIn w_X12_compare w_X12_bad := goodIn_sub (fun _ h => List.mem_cons_of_mem _ (List.mem_append_right _ (List.mem_append_right _ (List.mem_append_right _ (List.mem_append_right _ (List.mem_append_right _ (List.mem_append_left _ h))))))) (by decide +kernel)
theorem gg_X12_compare_X12_opens : GoodIn w_X12_compare w_X12_opens := goodIn_sub (fun _ h => List.mem_cons_of_mem _ (List.mem_append_right _ (List.mem_append_right _ (List.mem_append_right _ (List.mem_append_right _ (List.mem_append_right _ (List.mem_append_right _ (List.mem_append_left _ h)))))))) (by decide +kernel)
theorem gg_X12_compare_X12_closes : GoodIn w_X12_compare w_X12_closes := goodIn_sub (fun _ h => List.mem_cons_of_mem _ (List.mem_append_right _ (List.mem_append_right _ (List.mem_append_right _ (List.mem_append_right _ (List.mem_append_right _ (List.mem_append_right _ (List.mem_append_right _ (List.mem_append_left _ h))))))))) (by decide +kernel)
theorem gg_X12_compare_X12_put : GoodIn w_X12_compare w_X12_put := goodIn_sub (fun _ h => List.mem_cons_of_mem _ (List.mem_append_right _ (List.mem_append_right _ (List.mem_append_right _ (List.mem_append_right _ (List.mem_append_right _ (List.mem_append_right _ (List.mem_append_right _ (List.mem_append_right _ (List.mem_append_left _ h)))))))))) (by decide +kernel)
theorem gg_X12_compare_X12_plainNumber : GoodIn w_X12_compare w_X12_plainNumber := goodIn_sub (fun _ h => List.mem_cons_of_mem _ (List.mem_append_right _ (List.mem_append_right _ (List.mem_append_right _ (List.mem_append_right _ (List.mem_append_right _ (List.mem_append_right _ (List.mem_append_right _ (List.mem_append_right _ (List.mem_append_right _ (List.mem_append_left _ h))))))))))) (by decide +kernel)
theorem gg_X12_compare_X12_isSign : GoodIn w_X12_compare w_X12_isSign := goodIn_sub (fun _ h => List.mem_cons_of_mem _ (List.mem_append_right _ (List.mem_append_right _ (List.mem_append_right _ (List.mem_append_right _ (List.mem_append_right _ (List.mem_append_right _ (List.mem_append_right _ (List.mem_append_right _ (List.mem_append_right _ (List.mem_append_right _ (List.mem_append_left _ h)))))))))))) (by decide +kernel)
theorem gg_X12_compare_X12_atom : GoodIn w_X12_compare w_X12_atom := goodIn_sub (fun _ h => (List.mem_cons.mp h).elim (fun e => e ▸ List.mem_cons_of_mem _ (List.mem_append_left _ (List.mem_of_getElem? (i := 0) rfl))) (fun h => List.mem_cons_of_mem _ h)) (by decide +kernel)
theorem gg_X12_compare_X12_term : GoodIn w_X12_compare w_X12_term := goodIn_sub (fun _ h => (List.mem_cons.mp h).elim (fun e => e ▸ List.mem_cons_of_mem _ (List.mem_append_left _ (List.mem_of_getElem? (i := 1) rfl))) (fun h => List.mem_cons_of_mem _ h)) (by decide +kernel)
theorem gg_X12_compare_X12_sum : GoodIn w_X12_compare w_X12_sum := goodIn_sub (fun _ h => (List.mem_cons.mp h).elim (fun e => e ▸ List.mem_cons_of_mem _ (List.mem_append_left _ (List.mem_of_getElem? (i := 2) rfl))) (fun h => List.mem_cons_of_mem _ h)) (by decide +kernel)
theorem gg_X12_compare_X12_compare : GoodIn w_X12_compare w_X12_compare := goodIn_sub (fun _ h => (List.mem_cons.mp h).elim (fun e => e ▸ List.mem_cons_of_mem _ (List.mem_append_left _ (List.mem_of_getElem? (i := 3) rfl))) (fun h => List.mem_cons_of_mem _ h)) (by decide +kernel)
theorem gg_X12_compare_X12_unit : GoodIn w_X12_compare w_X12_unit := goodIn_sub (fun _ h => (List.mem_cons.mp h).elim (fun e => e ▸ List.mem_cons_of_mem _ (List.mem_append_left _ (List.mem_of_getElem? (i := 4) rfl))) (fun h => List.mem_cons_of_mem _ h)) (by decide +kernel)
theorem gg_X12_compare_X12_goOnAnd : GoodIn w_X12_compare w_X12_goOnAnd := goodIn_sub (fun _ h => (List.mem_cons.mp h).elim (fun e => e ▸ List.mem_cons_of_mem _ (List.mem_append_left _ (List.mem_of_getElem? (i := 5) rfl))) (fun h => List.mem_cons_of_mem _ h)) (by decide +kernel)
theorem gg_X12_compare_X12_goOnOr : GoodIn w_X12_compare w_X12_goOnOr := goodIn_sub (fun _ h => (List.mem_cons.mp h).elim (fun e => e ▸ List.mem_cons_of_mem _ (List.mem_append_left _ (List.mem_of_getElem? (i := 6) rfl))) (fun h => List.mem_cons_of_mem _ h)) (by decide +kernel)
theorem gg_X12_compare_X12_condition : GoodIn w_X12_compare w_X12_condition := goodIn_sub (fun _ h => (List.mem_cons.mp h).elim (fun e => e ▸ List.mem_cons_of_mem _ (List.mem_append_left _ (List.mem_of_getElem? (i := 7) rfl))) (fun h => List.mem_cons_of_mem _ h)) (by decide +kernel)
theorem in_X12_unit_X12 : ∀ w ∈ u_ws RX12 TX12 54, w ∈ w_X12_unit := fun _ h => List.mem_cons_of_mem _ (List.mem_append_right _ (List.mem_append_left _ h))
theorem gg_X12_unit_X12_look : GoodIn w_X12_unit w_X12_look := goodIn_sub (fun _ h => List.mem_cons_of_mem _ (List.mem_append_right _ (List.mem_append_right _ (List.mem_append_left _ h)))) (by decide +kernel)
theorem gg_X12_unit_X12_isDigit : GoodIn w_X12_unit w_X12_isDigit := goodIn_sub (fun _ h => List.mem_cons_of_mem _ (List.mem_append_right _ (List.mem_append_right _ (List.mem_append_right _ (List.mem_append_left _ h))))) (by decide +kernel)
theorem gg_X12_unit_X12_letterOf : GoodIn w_X12_unit w_X12_letterOf := goodIn_sub (fun _ h => List.mem_cons_of_mem _ (List.mem_append_right _ (List.mem_append_right _ (List.mem_append_right _ (List.mem_append_right _ (List.mem_append_left _ h)))))) (by decide +kernel)
theorem gg_X12_unit_X12_bad : GoodIn w_X12_unit w_X12_bad := goodIn_sub (fun _ h => List.mem_cons_of_mem _ (List.mem_append_right _ (List.mem_append_right _ (List.mem_append_right _ (List.mem_append_right _ (List.mem_append_right _ (List.mem_append_left _ h))))))) (by decide +kernel)
theorem gg_X12_unit_X12_opens : GoodIn w_X12_unit w_X12_opens := goodIn_sub (fun _ h => List.mem_cons_of_mem _ (List.mem_append_right _ (List.mem_append_right _ (List.mem_append_right _ (List.mem_append_right _ (List.mem_append_right _ (List.mem_append_right _ (List.mem_append_left _ h)))))))) (by decide +kernel)
theorem gg_X12_unit_X12_closes : GoodIn w_X12_unit w_X12_closes := goodIn_sub (fun _ h => List.mem_cons_of_mem _ (List.mem_append_right _ (List.mem_append_right _ (List.mem_append_right _ (List.mem_append_right _ (List.mem_append_right _ (List.mem_append_right _ (List.mem_append_right _ (List.mem_append_left _ h))))))))) (by decide +kernel)
theorem gg_X12_unit_X12_put : GoodIn w_X12_unit w_X12_put := goodIn_sub (fun _ h => List.mem_cons_of_mem _ (List.mem_append_right _ (List.mem_append_right _ (List.mem_append_right _ (List.mem_append_right _ (List.mem_append_right _ (List.mem_append_right _ (List.mem_append_right _ (List.mem_append_right _ (List.mem_append_left _ h)))))))))) (by decide +kernel)
theorem gg_X12_unit_X12_plainNumber : GoodIn w_X12_unit w_X12_plainNumber := goodIn_sub (fun _ h => List.mem_cons_of_mem _ (List.mem_append_right _ (List.mem_append_right _ (List.mem_append_right _ (List.mem_append_right _ (List.mem_append_right _ (List.mem_append_right _ (List.mem_append_right _ (List.mem_append_right _ (List.mem_append_right _ (List.mem_append_left _ h))))))))))) (by decide +kernel)
theorem gg_X12_unit_X12_isSign : GoodIn w_X12_unit w_X12_isSign := goodIn_sub (fun _ h => List.mem_cons_of_mem _ (List.mem_append_right _ (List.mem_append_right _ (List.mem_append_right _ (List.mem_append_right _ (List.mem_append_right _ (List.mem_append_right _ (List.mem_append_right _ (List.mem_append_right _ (List.mem_append_right _ (List.mem_append_right _ (List.mem_append_left _ h)))))))))))) (by decide +kernel)
theorem gg_X12_unit_X12_atom : GoodIn w_X12_unit w_X12_atom := goodIn_sub (fun _ h => (List.mem_cons.mp h).elim (fun e => e ▸ List.mem_cons_of_mem _ (List.mem_append_left _ (List.mem_of_getElem? (i := 0) rfl))) (fun h => List.mem_cons_of_mem _ h)) (by decide +kernel)
theorem gg_X12_unit_X12_term : GoodIn w_X12_unit w_X12_term := goodIn_sub (fun _ h => (List.mem_cons.mp h).elim (fun e => e ▸ List.mem_cons_of_mem _ (List.mem_append_left _ (List.mem_of_getElem? (i := 1) rfl))) (fun h => List.mem_cons_of_mem _ h)) (by decide +kernel)
theorem gg_X12_unit_X12_sum : GoodIn w_X12_unit w_X12_sum := goodIn_sub (fun _ h => (List.mem_cons.mp h).elim (fun e => e ▸ List.mem_cons_of_mem _ (List.mem_append_left _ (List.mem_of_getElem? (i := 2) rfl))) (fun h => List.mem_cons_of_mem _ h)) (by decide +kernel)
theorem gg_X12_unit_X12_compare : GoodIn w_X12_unit w_X12_compare := goodIn_sub (fun _ h => (List.mem_cons.mp h).elim (fun e => e ▸ List.mem_cons_of_mem _ (List.mem_append_left _ (List.mem_of_getElem? (i := 3) rfl))) (fun h => List.mem_cons_of_mem _ h)) (by decide +kernel)
theorem gg_X12_unit_X12_unit : GoodIn w_X12_unit w_X12_unit := goodIn_sub (fun _ h => (List.mem_cons.mp h).elim (fun e => e ▸ List.mem_cons_of_mem _ (List.mem_append_left _ (List.mem_of_getElem? (i := 4) rfl))) (fun h => List.mem_cons_of_mem _ h)) (by decide +kernel)
theorem gg_X12_unit_X12_goOnAnd : GoodIn w_X12_unit w_X12_goOnAnd := goodIn_sub (fun _ h => (List.mem_cons.mp h).elim (fun e => e ▸ List.mem_cons_of_mem _ (List.mem_append_left _ (List.mem_of_getElem? (i := 5) rfl))) (fun h => List.mem_cons_of_mem _ h)) (by decide +kernel)
theorem gg_X12_unit_X12_goOnOr : GoodIn w_X12_unit w_X12_goOnOr := goodIn_sub (fun _ h => (List.mem_cons.mp h).elim (fun e => e ▸ List.mem_cons_of_mem _ (List.mem_append_left _ (List.mem_of_getElem? (i := 6) rfl))) (fun h => List.mem_cons_of_mem _ h)) (by decide +kernel)
theorem gg_X12_unit_X12_condition : GoodIn w_X12_unit w_X12_condition := goodIn_sub (fun _ h => (List.mem_cons.mp h).elim (fun e => e ▸ List.mem_cons_of_mem _ (List.mem_append_left _ (List.mem_of_getElem? (i := 7) rfl))) (fun h => List.mem_cons_of_mem _ h)) (by decide +kernel)
theorem in_X12_goOnAnd_X12 : ∀ w ∈ u_ws RX12 TX12 54, w ∈ w_X12_goOnAnd := fun _ h => List.mem_cons_of_mem _ (List.mem_append_right _ (List.mem_append_left _ h))
theorem gg_X12_goOnAnd_X12_look : GoodIn w_X12_goOnAnd w_X12_look := goodIn_sub (fun _ h => List.mem_cons_of_mem _ (List.mem_append_right _ (List.mem_append_right _ (List.mem_append_left _ h)))) (by decide +kernel)
theorem gg_X12_goOnAnd_X12_isDigit : GoodIn w_X12_goOnAnd w_X12_isDigit := goodIn_sub (fun _ h => List.mem_cons_of_mem _ (List.mem_append_right _ (List.mem_append_right _ (List.mem_append_right _ (List.mem_append_left _ h))))) (by decide +kernel)
theorem gg_X12_goOnAnd_X12_letterOf : GoodIn w_X12_goOnAnd w_X12_letterOf := goodIn_sub (fun _ h => List.mem_cons_of_mem _ (List.mem_append_right _ (List.mem_append_right _ (List.mem_append_right _ (List.mem_append_right _ (List.mem_append_left _ h)))))) (by decide +kernel)
theorem gg_X12_goOnAnd_X12_bad : GoodIn w_X12_goOnAnd w_X12_bad := goodIn_sub (fun _ h => List.mem_cons_of_mem _ (List.mem_append_right _ (List.mem_append_right _ (List.mem_append_right _ (List.mem_append_right _ (List.mem_append_right _ (List.mem_append_left _ h))))))) (by decide +kernel)
theorem gg_X12_goOnAnd_X12_opens : GoodIn w_X12_goOnAnd w_X12_opens := goodIn_sub (fun _ h => List.mem_cons_of_mem _ (List.mem_append_right _ (List.mem_append_right _ (List.mem_append_right _ (List.mem_append_right _ (List.mem_append_right _ (List.mem_append_right _ (List.mem_append_left _ h)))))))) (by decide +kernel)
theorem gg_X12_goOnAnd_X12_closes : GoodIn w_X12_goOnAnd w_X12_closes := goodIn_sub (fun _ h => List.mem_cons_of_mem _ (List.mem_append_right _ (List.mem_append_right _ (List.mem_append_right _ (List.mem_append_right _ (List.mem_append_right _ (List.mem_append_right _ (List.mem_append_right _ (List.mem_append_left _ h))))))))) (by decide +kernel)
theorem gg_X12_goOnAnd_X12_put : GoodIn w_X12_goOnAnd w_X12_put := goodIn_sub (fun _ h => List.mem_cons_of_mem _ (List.mem_append_right _ (List.mem_append_right _ (List.mem_append_right _ (List.mem_append_right _ (List.mem_append_right _ (List.mem_append_right _ (List.mem_append_right _ (List.mem_append_right _ (List.mem_append_left _ h)))))))))) (by decide +kernel)
theorem gg_X12_goOnAnd_X12_plainNumber : GoodIn w_X12_goOnAnd w_X12_plainNumber := goodIn_sub (fun _ h => List.mem_cons_of_mem _ (List.mem_append_right _ (List.mem_append_right _ (List.mem_append_right _ (List.mem_append_right _ (List.mem_append_right _ (List.mem_append_right _ (List.mem_append_right _ (List.mem_append_right _ (List.mem_append_right _ (List.mem_append_left _ h))))))))))) (by decide +kernel)
theorem gg_X12_goOnAnd_X12_isSign : GoodIn w_X12_goOnAnd w_X12_isSign := goodIn_sub (fun _ h => List.mem_cons_of_mem _ (List.mem_append_right _ (List.mem_append_right _ (List.mem_append_right _ (List.mem_append_right _ (List.mem_append_right _ (List.mem_append_right _ (List.mem_append_right _ (List.mem_append_right _ (List.mem_append_right _ (List.mem_append_right _ (List.mem_append_left _ h)))))))))))) (by decide +kernel)
theorem gg_X12_goOnAnd_X12_atom : GoodIn w_X12_goOnAnd w_X12_atom := goodIn_sub (fun _ h => (List.mem_cons.mp h).elim (fun e => e ▸ List.mem_cons_of_mem _ (List.mem_append_left _ (List.mem_of_getElem? (i := 0) rfl))) (fun h => List.mem_cons_of_mem _ h)) (by decide +kernel)
theorem gg_X12_goOnAnd_X12_term : GoodIn w_X12_goOnAnd w_X12_term := goodIn_sub (fun _ h => (List.mem_cons.mp h).elim (fun e => e ▸ List.mem_cons_of_mem _ (List.mem_append_left _ (List.mem_of_getElem? (i := 1) rfl))) (fun h => List.mem_cons_of_mem _ h)) (by decide +kernel)
theorem gg_X12_goOnAnd_X12_sum : GoodIn w_X12_goOnAnd w_X12_sum := goodIn_sub (fun _ h => (List.mem_cons.mp h).elim (fun e => e ▸ List.mem_cons_of_mem _ (List.mem_append_left _ (List.mem_of_getElem? (i := 2) rfl))) (fun h => List.mem_cons_of_mem _ h)) (by decide +kernel)
theorem gg_X12_goOnAnd_X12_compare : GoodIn w_X12_goOnAnd w_X12_compare := goodIn_sub (fun _ h => (List.mem_cons.mp h).elim (fun e => e ▸ List.mem_cons_of_mem _ (List.mem_append_left _ (List.mem_of_getElem? (i := 3) rfl))) (fun h => List.mem_cons_of_mem _ h)) (by decide +kernel)
theorem gg_X12_goOnAnd_X12_unit : GoodIn w_X12_goOnAnd w_X12_unit := goodIn_sub (fun _ h => (List.mem_cons.mp h).elim (fun e => e ▸ List.mem_cons_of_mem _ (List.mem_append_left _ (List.mem_of_getElem? (i := 4) rfl))) (fun h => List.mem_cons_of_mem _ h)) (by decide +kernel)
theorem gg_X12_goOnAnd_X12_goOnAnd : GoodIn w_X12_goOnAnd w_X12_goOnAnd := goodIn_sub (fun _ h => (List.mem_cons.mp h).elim (fun e => e ▸ List.mem_cons_of_mem _ (List.mem_append_left _ (List.mem_of_getElem? (i := 5) rfl))) (fun h => List.mem_cons_of_mem _ h)) (by decide +kernel)
theorem gg_X12_goOnAnd_X12_goOnOr : GoodIn w_X12_goOnAnd w_X12_goOnOr := goodIn_sub (fun _ h => (List.mem_cons.mp h).elim (fun e => e ▸ List.mem_cons_of_mem _ (List.mem_append_left _ (List.mem_of_getElem? (i := 6) rfl))) (fun h => List.mem_cons_of_mem _ h)) (by decide +kernel)
theorem gg_X12_goOnAnd_X12_condition : GoodIn w_X12_goOnAnd w_X12_condition := goodIn_sub (fun _ h => (List.mem_cons.mp h).elim (fun e => e ▸ List.mem_cons_of_mem _ (List.mem_append_left _ (List.mem_of_getElem? (i := 7) rfl))) (fun h => List.mem_cons_of_mem _ h)) (by decide +kernel)
theorem in_X12_goOnOr_X12 : ∀ w ∈ u_ws RX12 TX12 54, w ∈ w_X12_goOnOr := fun _ h => List.mem_cons_of_mem _ (List.mem_append_right _ (List.mem_append_left _ h))
theorem gg_X12_goOnOr_X12_look : GoodIn w_X12_goOnOr w_X12_look := goodIn_sub (fun _ h => List.mem_cons_of_mem _ (List.mem_append_right _ (List.mem_append_right _ (List.mem_append_left _ h)))) (by decide +kernel)
theorem gg_X12_goOnOr_X12_isDigit : GoodIn w_X12_goOnOr w_X12_isDigit := goodIn_sub (fun _ h => List.mem_cons_of_mem _ (List.mem_append_right _ (List.mem_append_right _ (List.mem_append_right _ (List.mem_append_left _ h))))) (by decide +kernel)
theorem gg_X12_goOnOr_X12_letterOf : GoodIn w_X12_goOnOr w_X12_letterOf := goodIn_sub (fun _ h => List.mem_cons_of_mem _ (List.mem_append_right _ (List.mem_append_right _ (List.mem_append_right _ (List.mem_append_right _ (List.mem_append_left _ h)))))) (by decide +kernel)
theorem gg_X12_goOnOr_X12_bad : GoodIn w_X12_goOnOr w_X12_bad := goodIn_sub (fun _ h => List.mem_cons_of_mem _ (List.mem_append_right _ (List.mem_append_right _ (List.mem_append_right _ (List.mem_append_right _ (List.mem_append_right _ (List.mem_append_left _ h))))))) (by decide +kernel)
theorem gg_X12_goOnOr_X12_opens : GoodIn w_X12_goOnOr w_X12_opens := goodIn_sub (fun _ h => List.mem_cons_of_mem _ (List.mem_append_right _ (List.mem_append_right _ (List.mem_append_right _ (List.mem_append_right _ (List.mem_append_right _ (List.mem_append_right _ (List.mem_append_left _ h)))))))) (by decide +kernel)
theorem gg_X12_goOnOr_X12_closes : GoodIn w_X12_goOnOr w_X12_closes := goodIn_sub (fun _ h => List.mem_cons_of_mem _ (List.mem_append_right _ (List.mem_append_right _ (List.mem_append_right _ (List.mem_append_right _ (List.mem_append_right _ (List.mem_append_right _ (List.mem_append_right _ (List.mem_append_left _ h))))))))) (by decide +kernel)
theorem gg_X12_goOnOr_X12_put : GoodIn w_X12_goOnOr w_X12_put := goodIn_sub (fun _ h => List.mem_cons_of_mem _ (List.mem_append_right _ (List.mem_append_right _ (List.mem_append_right _ (List.mem_append_right _ (List.mem_append_right _ (List.mem_append_right _ (List.mem_append_right _ (List.mem_append_right _ (List.mem_append_left _ h)))))))))) (by decide +kernel)
theorem gg_X12_goOnOr_X12_plainNumber : GoodIn w_X12_goOnOr w_X12_plainNumber := goodIn_sub (fun _ h => List.mem_cons_of_mem _ (List.mem_append_right _ (List.mem_append_right _ (List.mem_append_right _ (List.mem_append_right _ (List.mem_append_right _ (List.mem_append_right _ (List.mem_append_right _ (List.mem_append_right _ (List.mem_append_right _ (List.mem_append_left _ h))))))))))) (by decide +kernel)
theorem gg_X12_goOnOr_X12_isSign : GoodIn w_X12_goOnOr w_X12_isSign := goodIn_sub (fun _ h => List.mem_cons_of_mem _ (List.mem_append_right _ (List.mem_append_right _ (List.mem_append_right _ (List.mem_append_right _ (List.mem_append_right _ (List.mem_append_right _ (List.mem_append_right _ (List.mem_append_right _ (List.mem_append_right _ (List.mem_append_right _ (List.mem_append_left _ h)))))))))))) (by decide +kernel)
theorem gg_X12_goOnOr_X12_atom : GoodIn w_X12_goOnOr w_X12_atom := goodIn_sub (fun _ h => (List.mem_cons.mp h).elim (fun e => e ▸ List.mem_cons_of_mem _ (List.mem_append_left _ (List.mem_of_getElem? (i := 0) rfl))) (fun h => List.mem_cons_of_mem _ h)) (by decide +kernel)
theorem gg_X12_goOnOr_X12_term : GoodIn w_X12_goOnOr w_X12_term := goodIn_sub (fun _ h => (List.mem_cons.mp h).elim (fun e => e ▸ List.mem_cons_of_mem _ (List.mem_append_left _ (List.mem_of_getElem? (i := 1) rfl))) (fun h => List.mem_cons_of_mem _ h)) (by decide +kernel)
theorem gg_X12_goOnOr_X12_sum : GoodIn w_X12_goOnOr w_X12_sum := goodIn_sub (fun _ h => (List.mem_cons.mp h).elim (fun e => e ▸ List.mem_cons_of_mem _ (List.mem_append_left _ (List.mem_of_getElem? (i := 2) rfl))) (fun h => List.mem_cons_of_mem _ h)) (by decide +kernel)
theorem gg_X12_goOnOr_X12_compare : GoodIn w_X12_goOnOr w_X12_compare := goodIn_sub (fun _ h => (List.mem_cons.mp h).elim (fun e => e ▸ List.mem_cons_of_mem _ (List.mem_append_left _ (List.mem_of_getElem? (i := 3) rfl))) (fun h => List.mem_cons_of_mem _ h)) (by decide +kernel)
theorem gg_X12_goOnOr_X12_unit : GoodIn w_X12_goOnOr w_X12_unit := goodIn_sub (fun _ h => (List.mem_cons.mp h).elim (fun e => e ▸ List.mem_cons_of_mem _ (List.mem_append_left _ (List.mem_of_getElem? (i := 4) rfl))) (fun h => List.mem_cons_of_mem _ h)) (by decide +kernel)
theorem gg_X12_goOnOr_X12_goOnAnd : GoodIn w_X12_goOnOr w_X12_goOnAnd := goodIn_sub (fun _ h => (List.mem_cons.mp h).elim (fun e => e ▸ List.mem_cons_of_mem _ (List.mem_append_left _ (List.mem_of_getElem? (i := 5) rfl))) (fun h => List.mem_cons_of_mem _ h)) (by decide +kernel)
theorem gg_X12_goOnOr_X12_goOnOr : GoodIn w_X12_goOnOr w_X12_goOnOr := goodIn_sub (fun _ h => (List.mem_cons.mp h).elim (fun e => e ▸ List.mem_cons_of_mem _ (List.mem_append_left _ (List.mem_of_getElem? (i := 6) rfl))) (fun h => List.mem_cons_of_mem _ h)) (by decide +kernel)
theorem gg_X12_goOnOr_X12_condition : GoodIn w_X12_goOnOr w_X12_condition := goodIn_sub (fun _ h => (List.mem_cons.mp h).elim (fun e => e ▸ List.mem_cons_of_mem _ (List.mem_append_left _ (List.mem_of_getElem? (i := 7) rfl))) (fun h => List.mem_cons_of_mem _ h)) (by decide +kernel)
theorem in_X12_condition_X12 : ∀ w ∈ u_ws RX12 TX12 54, w ∈ w_X12_condition := fun _ h => List.mem_cons_of_mem _ (List.mem_append_right _ (List.mem_append_left _ h))
theorem gg_X12_condition_X12_look : GoodIn w_X12_condition w_X12_look := goodIn_sub (fun _ h => List.mem_cons_of_mem _ (List.mem_append_right _ (List.mem_append_right _ (List.mem_append_left _ h)))) (by decide +kernel)
theorem gg_X12_condition_X12_isDigit : GoodIn w_X12_condition w_X12_isDigit := goodIn_sub (fun _ h => List.mem_cons_of_mem _ (List.mem_append_right _ (List.mem_append_right _ (List.mem_append_right _ (List.mem_append_left _ h))))) (by decide +kernel)
theorem gg_X12_condition_X12_letterOf : GoodIn w_X12_condition w_X12_letterOf := goodIn_sub (fun _ h => List.mem_cons_of_mem _ (List.mem_append_right _ (List.mem_append_right _ (List.mem_append_right _ (List.mem_append_right _ (List.mem_append_left _ h)))))) (by decide +kernel)
theorem gg_X12_condition_X12_bad : GoodIn w_X12_condition w_X12_bad := goodIn_sub (fun _ h => List.mem_cons_of_mem _ (List.mem_append_right _ (List.mem_append_right _ (List.mem_append_right _ (List.mem_append_right _ (List.mem_append_right _ (List.mem_append_left _ h))))))) (by decide +kernel)
theorem gg_X12_condition_X12_opens : GoodIn w_X12_condition w_X12_opens := goodIn_sub (fun _ h => List.mem_cons_of_mem _ (List.mem_append_right _ (List.mem_append_right _ (List.mem_append_right _ (List.mem_append_right _ (List.mem_append_right _ (List.mem_append_right _ (List.mem_append_left _ h)))))))) (by decide +kernel)
theorem gg_X12_condition_X12_closes : GoodIn w_X12_condition w_X12_closes := goodIn_sub (fun _ h => List.mem_cons_of_mem _ (List.mem_append_right _ (List.mem_append_right _ (List.mem_append_right _ (List.mem_append_right _ (List.mem_append_right _ (List.mem_append_right _ (List.mem_append_right _ (List.mem_append_left _ h))))))))) (by decide +kernel)
theorem gg_X12_condition_X12_put : GoodIn w_X12_condition w_X12_put := goodIn_sub (fun _ h => List.mem_cons_of_mem _ (List.mem_append_right _ (List.mem_append_right _ (List.mem_append_right _ (List.mem_append_right _ (List.mem_append_right _ (List.mem_append_right _ (List.mem_append_right _ (List.mem_append_right _ (List.mem_append_left _ h)))))))))) (by decide +kernel)
theorem gg_X12_condition_X12_plainNumber : GoodIn w_X12_condition w_X12_plainNumber := goodIn_sub (fun _ h => List.mem_cons_of_mem _ (List.mem_append_right _ (List.mem_append_right _ (List.mem_append_right _ (List.mem_append_right _ (List.mem_append_right _ (List.mem_append_right _ (List.mem_append_right _ (List.mem_append_right _ (List.mem_append_right _ (List.mem_append_left _ h))))))))))) (by decide +kernel)
theorem gg_X12_condition_X12_isSign : GoodIn w_X12_condition w_X12_isSign := goodIn_sub (fun _ h => List.mem_cons_of_mem _ (List.mem_append_right _ (List.mem_append_right _ (List.mem_append_right _ (List.mem_append_right _ (List.mem_append_right _ (List.mem_append_right _ (List.mem_append_right _ (List.mem_append_right _ (List.mem_append_right _ (List.mem_append_right _ (List.mem_append_left _ h)))))))))))) (by decide +kernel)
theorem gg_X12_condition_X12_atom : GoodIn w_X12_condition w_X12_atom := goodIn_sub (fun _ h => (List.mem_cons.mp h).elim (fun e => e ▸ List.mem_cons_of_mem _ (List.mem_append_left _ (List.mem_of_getElem? (i := 0) rfl))) (fun h => List.mem_cons_of_mem _ h)) (by decide +kernel)
theorem gg_X12_condition_X12_term : GoodIn w_X12_condition w_X12_term := goodIn_sub (fun _ h => (List.mem_cons.mp h).elim (fun e => e ▸ List.mem_cons_of_mem _ (List.mem_append_left _ (List.mem_of_getElem? (i := 1) rfl))) (fun h => List.mem_cons_of_mem _ h)) (by decide +kernel)
theorem gg_X12_condition_X12_sum : GoodIn w_X12_condition w_X12_sum := goodIn_sub (fun _ h => (List.mem_cons.mp h).elim (fun e => e ▸ List.mem_cons_of_mem _ (List.mem_append_left _ (List.mem_of_getElem? (i := 2) rfl))) (fun h => List.mem_cons_of_mem _ h)) (by decide +kernel)
theorem gg_X12_condition_X12_compare : GoodIn w_X12_condition w_X12_compare := goodIn_sub (fun _ h => (List.mem_cons.mp h).elim (fun e => e ▸ List.mem_cons_of_mem _ (List.mem_append_left _ (List.mem_of_getElem? (i := 3) rfl))) (fun h => List.mem_cons_of_mem _ h)) (by decide +kernel)
theorem gg_X12_condition_X12_unit : GoodIn w_X12_condition w_X12_unit := goodIn_sub (fun _ h => (List.mem_cons.mp h).elim (fun e => e ▸ List.mem_cons_of_mem _ (List.mem_append_left _ (List.mem_of_getElem? (i := 4) rfl))) (fun h => List.mem_cons_of_mem _ h)) (by decide +kernel)
theorem gg_X12_condition_X12_goOnAnd : GoodIn w_X12_condition w_X12_goOnAnd := goodIn_sub (fun _ h => (List.mem_cons.mp h).elim (fun e => e ▸ List.mem_cons_of_mem _ (List.mem_append_left _ (List.mem_of_getElem? (i := 5) rfl))) (fun h => List.mem_cons_of_mem _ h)) (by decide +kernel)
theorem gg_X12_condition_X12_goOnOr : GoodIn w_X12_condition w_X12_goOnOr := goodIn_sub (fun _ h => (List.mem_cons.mp h).elim (fun e => e ▸ List.mem_cons_of_mem _ (List.mem_append_left _ (List.mem_of_getElem? (i := 6) rfl))) (fun h => List.mem_cons_of_mem _ h)) (by decide +kernel)
theorem gg_X12_condition_X12_condition : GoodIn w_X12_condition w_X12_condition := goodIn_sub (fun _ h => (List.mem_cons.mp h).elim (fun e => e ▸ List.mem_cons_of_mem _ (List.mem_append_left _ (List.mem_of_getElem? (i := 7) rfl))) (fun h => List.mem_cons_of_mem _ h)) (by decide +kernel)
theorem g_X12_atom_X12_bad_143 : GoodIn w_X12_atom (wsV RX12 143 RX12 yX12_bad w_X12_bad) := goodIn_app (goodIn_of _ (by decide +kernel)) gg_X12_atom_X12_bad
theorem g_X12_atom_X12_closes_170 : GoodIn w_X12_atom (wsV RX12 170 RX12 yX12_closes w_X12_closes) := goodIn_app (goodIn_of _ (by decide +kernel)) gg_X12_atom_X12_closes
theorem g_X12_atom_X12_isDigit_149 : GoodIn w_X12_atom (va_wsS RX12 149 yX12_isDigit w_X12_isDigit) := goodIn_app (goodIn_of _ (by decide +kernel)) gg_X12_atom_X12_isDigit
theorem g_X12_atom_X12_letterOf_160 : GoodIn w_X12_atom (va_wsS RX12 160 yX12_letterOf w_X12_letterOf) := goodIn_app (goodIn_of _ (by decide +kernel)) gg_X12_atom_X12_letterOf
theorem g_X12_atom_X12_look_146 : GoodIn w_X12_atom (wsV RX12 146 RX12 yX12_look w_X12_look) := goodIn_app (goodIn_of _ (by decide +kernel)) gg_X12_atom_X12_look
theorem g_X12_atom_X12_opens_164 : GoodIn w_X12_atom (wsV RX12 164 RX12 yX12_opens w_X12_opens) := goodIn_app (goodIn_of _ (by decide +kernel)) gg_X12_atom_X12_opens
theorem g_X12_atom_X12_plainNumber_153 : GoodIn w_X12_atom (wsV RX12 153 RX12 yX12_plainNumber w_X12_plainNumber) := goodIn_app (goodIn_of _ (by decide +kernel)) gg_X12_atom_X12_plainNumber
theorem g_X12_atom_X12_put_156 : GoodIn w_X12_atom (wsV RX12 156 RX12 yX12_put w_X12_put) := goodIn_app (goodIn_of _ (by decide +kernel)) gg_X12_atom_X12_put
theorem g_X12_atom_X12_sum_167 : GoodIn w_X12_atom (wsV RX12 167 RX12 yX12_sum w_X12_sum) := goodIn_app (goodIn_of _ (by decide +kernel)) gg_X12_atom_X12_sum
theorem g_X12_compare_X12_bad_143 : GoodIn w_X12_compare (wsV RX12 143 RX12 yX12_bad w_X12_bad) := goodIn_app (goodIn_of _ (by decide +kernel)) gg_X12_compare_X12_bad
theorem g_X12_compare_X12_isSign_180 : GoodIn w_X12_compare (va_wsS RX12 180 yX12_isSign w_X12_isSign) := goodIn_app (goodIn_of _ (by decide +kernel)) gg_X12_compare_X12_isSign
theorem g_X12_compare_X12_look_146 : GoodIn w_X12_compare (wsV RX12 146 RX12 yX12_look w_X12_look) := goodIn_app (goodIn_of _ (by decide +kernel)) gg_X12_compare_X12_look
theorem g_X12_compare_X12_put_156 : GoodIn w_X12_compare (wsV RX12 156 RX12 yX12_put w_X12_put) := goodIn_app (goodIn_of _ (by decide +kernel)) gg_X12_compare_X12_put
theorem g_X12_compare_X12_sum_167 : GoodIn w_X12_compare (wsV RX12 167 RX12 yX12_sum w_X12_sum) := goodIn_app (goodIn_of _ (by decide +kernel)) gg_X12_compare_X12_sum
theorem g_X12_condition_X12_goOnAnd_192 : GoodIn w_X12_condition (wsV RX12 192 RX12 yX12_goOnAnd w_X12_goOnAnd) := goodIn_app (goodIn_of _ (by decide +kernel)) gg_X12_condition_X12_goOnAnd
theorem g_X12_condition_X12_goOnOr_195 : GoodIn w_X12_condition (wsV RX12 195 RX12 yX12_goOnOr w_X12_goOnOr) := goodIn_app (goodIn_of _ (by decide +kernel)) gg_X12_condition_X12_goOnOr
theorem g_X12_condition_X12_unit_183 : GoodIn w_X12_condition (wsV RX12 183 RX12 yX12_unit w_X12_unit) := goodIn_app (goodIn_of _ (by decide +kernel)) gg_X12_condition_X12_unit
theorem g_X12_goOnAnd_X12_look_146 : GoodIn w_X12_goOnAnd (wsV RX12 146 RX12 yX12_look w_X12_look) := goodIn_app (goodIn_of _ (by decide +kernel)) gg_X12_goOnAnd_X12_look
theorem g_X12_goOnAnd_X12_put_156 : GoodIn w_X12_goOnAnd (wsV RX12 156 RX12 yX12_put w_X12_put) := goodIn_app (goodIn_of _ (by decide +kernel)) gg_X12_goOnAnd_X12_put
theorem g_X12_goOnAnd_X12_unit_183 : GoodIn w_X12_goOnAnd (wsV RX12 183 RX12 yX12_unit w_X12_unit) := goodIn_app (goodIn_of _ (by decide +kernel)) gg_X12_goOnAnd_X12_unit
theorem g_X12_goOnOr_X12_goOnAnd_192 : GoodIn w_X12_goOnOr (wsV RX12 192 RX12 yX12_goOnAnd w_X12_goOnAnd) := goodIn_app (goodIn_of _ (by decide +kernel)) gg_X12_goOnOr_X12_goOnAnd
theorem g_X12_goOnOr_X12_look_146 : GoodIn w_X12_goOnOr (wsV RX12 146 RX12 yX12_look w_X12_look) := goodIn_app (goodIn_of _ (by decide +kernel)) gg_X12_goOnOr_X12_look
theorem g_X12_goOnOr_X12_put_156 : GoodIn w_X12_goOnOr (wsV RX12 156 RX12 yX12_put w_X12_put) := goodIn_app (goodIn_of _ (by decide +kernel)) gg_X12_goOnOr_X12_put
theorem g_X12_goOnOr_X12_unit_183 : GoodIn w_X12_goOnOr (wsV RX12 183 RX12 yX12_unit w_X12_unit) := goodIn_app (goodIn_of _ (by decide +kernel)) gg_X12_goOnOr_X12_unit
theorem g_X12_sum_X12_look_146 : GoodIn w_X12_sum (wsV RX12 146 RX12 yX12_look w_X12_look) := goodIn_app (goodIn_of _ (by decide +kernel)) gg_X12_sum_X12_look
theorem g_X12_sum_X12_put_156 : GoodIn w_X12_sum (wsV RX12 156 RX12 yX12_put w_X12_put) := goodIn_app (goodIn_of _ (by decide +kernel)) gg_X12_sum_X12_put
theorem g_X12_sum_X12_term_177 : GoodIn w_X12_sum (wsV RX12 177 RX12 yX12_term w_X12_term) := goodIn_app (goodIn_of _ (by decide +kernel)) gg_X12_sum_X12_term
theorem g_X12_term_X12_atom_174 : GoodIn w_X12_term (wsV RX12 174 RX12 yX12_atom w_X12_atom) := goodIn_app (goodIn_of _ (by decide +kernel)) gg_X12_term_X12_atom
theorem g_X12_term_X12_look_146 : GoodIn w_X12_term (wsV RX12 146 RX12 yX12_look w_X12_look) := goodIn_app (goodIn_of _ (by decide +kernel)) gg_X12_term_X12_look
theorem g_X12_term_X12_put_156 : GoodIn w_X12_term (wsV RX12 156 RX12 yX12_put w_X12_put) := goodIn_app (goodIn_of _ (by decide +kernel)) gg_X12_term_X12_put
theorem g_X12_unit_X12_closes_170 : GoodIn w_X12_unit (wsV RX12 170 RX12 yX12_closes w_X12_closes) := goodIn_app (goodIn_of _ (by decide +kernel)) gg_X12_unit_X12_closes
theorem g_X12_unit_X12_compare_189 : GoodIn w_X12_unit (wsV RX12 189 RX12 yX12_compare w_X12_compare) := goodIn_app (goodIn_of _ (by decide +kernel)) gg_X12_unit_X12_compare
theorem g_X12_unit_X12_condition_186 : GoodIn w_X12_unit (wsV RX12 186 RX12 yX12_condition w_X12_condition) := goodIn_app (goodIn_of _ (by decide +kernel)) gg_X12_unit_X12_condition
theorem g_X12_unit_X12_look_146 : GoodIn w_X12_unit (wsV RX12 146 RX12 yX12_look w_X12_look) := goodIn_app (goodIn_of _ (by decide +kernel)) gg_X12_unit_X12_look
theorem g_X12_unit_X12_opens_164 : GoodIn w_X12_unit (wsV RX12 164 RX12 yX12_opens w_X12_opens) := goodIn_app (goodIn_of _ (by decide +kernel)) gg_X12_unit_X12_opens
theorem g_X12_unit_X12_put_156 : GoodIn w_X12_unit (wsV RX12 156 RX12 yX12_put w_X12_put) := goodIn_app (goodIn_of _ (by decide +kernel)) gg_X12_unit_X12_put
theorem g_X12_unit_X12_sum_167 : GoodIn w_X12_unit (wsV RX12 167 RX12 yX12_sum w_X12_sum) := goodIn_app (goodIn_of _ (by decide +kernel)) gg_X12_unit_X12_sum
theorem g_X12_unit_X12_unit_183 : GoodIn w_X12_unit (wsV RX12 183 RX12 yX12_unit w_X12_unit) := goodIn_app (goodIn_of _ (by decide +kernel)) gg_X12_unit_X12_unit

def Q_atom (l : Launch) (E : py_E) (G : wf_G) (wb : Int) (fr lo : Nat) : Prop := ∀ (L : List Nat) (f : py_F) (sz : Nat) (u : Nat), WF E G L f → G.1 u = 13 → (mi f u 4 = -1 ∧ wb ≤ mi f u 5 ∧ mi f u 5 ≤ 6 ∧ 0 ≤ mi f u 3 ∧ mi f u 3 ≤ mi f u 2 ∧ cdv f G u ≤ mi f u 3) → Met l yX12_atom w_X12_atom ({ frames := fr, cells := 0, slots := 0, locals := lo }) (py_Pc E [.ref u] L f sz) (py_Qv E L f sz (fun L1 f1 => (mi f u 3 ≤ mi f1 u 3 ∧ cdv f1 G u - cdv f G u ≤ mi f1 u 3 - mi f u 3 ∧ mi f1 u 3 ≤ 167 - mi f u 5) ∧ (mi f1 u 4 = -1 → mi f1 u 5 = mi f u 5 ∧ mi f1 u 3 ≤ mi f u 2) ∧ (TR f f1 G u (13 - 2 * wb) 0 1) ∧ WF E G L1 f1 ∧ KP G [41, 42, 43, 13] false f f1 ∧ FK [3, 4, 5] f f1 u)) 0 0 (va_A (va_pl L f) sz)
def Q_term (l : Launch) (E : py_E) (G : wf_G) (wb : Int) (fr lo : Nat) : Prop := ∀ (L : List Nat) (f : py_F) (sz : Nat) (u : Nat), WF E G L f → G.1 u = 13 → (mi f u 4 = -1 ∧ wb ≤ mi f u 5 ∧ mi f u 5 ≤ 6 ∧ 0 ≤ mi f u 3 ∧ mi f u 3 ≤ mi f u 2 ∧ cdv f G u ≤ mi f u 3) → Met l yX12_term w_X12_term ({ frames := fr, cells := 0, slots := 0, locals := lo }) (py_Pc E [.ref u] L f sz) (py_Qv E L f sz (fun L1 f1 => (mi f u 3 ≤ mi f1 u 3 ∧ cdv f1 G u - cdv f G u ≤ mi f1 u 3 - mi f u 3 ∧ mi f1 u 3 ≤ 167 - mi f u 5) ∧ (mi f1 u 4 = -1 → mi f1 u 5 = mi f u 5 ∧ mi f1 u 3 ≤ mi f u 2) ∧ (TR f f1 G u (14 - 2 * wb) 0 1) ∧ WF E G L1 f1 ∧ KP G [41, 42, 43, 13] false f f1 ∧ FK [3, 4, 5] f f1 u)) 0 0 (va_A (va_pl L f) sz)
def Q_sum (l : Launch) (E : py_E) (G : wf_G) (wb : Int) (fr lo : Nat) : Prop := ∀ (L : List Nat) (f : py_F) (sz : Nat) (u : Nat), WF E G L f → G.1 u = 13 → (mi f u 4 = -1 ∧ wb ≤ mi f u 5 ∧ mi f u 5 ≤ 6 ∧ 0 ≤ mi f u 3 ∧ mi f u 3 ≤ mi f u 2 ∧ cdv f G u ≤ mi f u 3) → Met l yX12_sum w_X12_sum ({ frames := fr, cells := 0, slots := 0, locals := lo }) (py_Pc E [.ref u] L f sz) (py_Qv E L f sz (fun L1 f1 => (mi f u 3 ≤ mi f1 u 3 ∧ cdv f1 G u - cdv f G u ≤ mi f1 u 3 - mi f u 3 ∧ mi f1 u 3 ≤ 167 - mi f u 5) ∧ (mi f1 u 4 = -1 → mi f1 u 5 = mi f u 5 ∧ mi f1 u 3 ≤ mi f u 2) ∧ (TR f f1 G u (15 - 2 * wb) 0 1) ∧ WF E G L1 f1 ∧ KP G [41, 42, 43, 13] false f f1 ∧ FK [3, 4, 5] f f1 u)) 0 0 (va_A (va_pl L f) sz)
def Q_compare (l : Launch) (E : py_E) (G : wf_G) (wb : Int) (fr lo : Nat) : Prop := ∀ (L : List Nat) (f : py_F) (sz : Nat) (u : Nat), WF E G L f → G.1 u = 13 → ((mi f u 4 = -1 → wb ≤ mi f u 5 ∧ mi f u 5 ≤ 6 ∧ mi f u 3 ≤ mi f u 2) ∧ 0 ≤ mi f u 3 ∧ cdv f G u ≤ mi f u 3) → Met l yX12_compare w_X12_compare ({ frames := fr, cells := 0, slots := 0, locals := lo }) (py_Pc E [.ref u] L f sz) (py_Qv E L f sz (fun L1 f1 => (mi f u 3 ≤ mi f1 u 3 ∧ cdv f1 G u - cdv f G u ≤ mi f1 u 3 - mi f u 3) ∧ (mi f u 4 = -1 → mi f1 u 3 ≤ 167 - mi f u 5) ∧ (mi f u 4 ≠ -1 → mi f1 u 3 = mi f u 3 ∧ mi f1 u 4 ≠ -1) ∧ (mi f1 u 4 = -1 → mi f1 u 5 = mi f u 5 ∧ mi f1 u 3 ≤ mi f u 2) ∧ (TR f f1 G u (16 - 2 * wb) 1 1) ∧ WF E G L1 f1 ∧ KP G [41, 42, 43, 13] false f f1 ∧ FK [3, 4, 5] f f1 u)) 0 0 (va_A (va_pl L f) sz)
def Q_unit (l : Launch) (E : py_E) (G : wf_G) (wb : Int) (fr lo : Nat) : Prop := ∀ (L : List Nat) (f : py_F) (sz : Nat) (u : Nat), WF E G L f → G.1 u = 13 → (mi f u 4 = -1 ∧ wb ≤ mi f u 5 ∧ mi f u 5 ≤ 6 ∧ 0 ≤ mi f u 3 ∧ mi f u 3 ≤ mi f u 2 ∧ cdv f G u ≤ mi f u 3) → Met l yX12_unit w_X12_unit ({ frames := fr, cells := 0, slots := 0, locals := lo }) (py_Pc E [.ref u] L f sz) (py_Qv E L f sz (fun L1 f1 => (mi f u 3 ≤ mi f1 u 3 ∧ cdv f1 G u - cdv f G u ≤ mi f1 u 3 - mi f u 3 ∧ mi f1 u 3 ≤ 167 - mi f u 5) ∧ (mi f1 u 4 = -1 → mi f1 u 5 = mi f u 5 ∧ mi f1 u 3 ≤ mi f u 2) ∧ (TR f f1 G u (18 - 2 * wb) 0 1) ∧ WF E G L1 f1 ∧ KP G [41, 42, 43, 13] false f f1 ∧ FK [3, 4, 5] f f1 u)) 0 0 (va_A (va_pl L f) sz)
def Q_goOnAnd (l : Launch) (E : py_E) (G : wf_G) (wb : Int) (fr lo : Nat) : Prop := ∀ (L : List Nat) (f : py_F) (sz : Nat) (u : Nat), WF E G L f → G.1 u = 13 → ((mi f u 4 = -1 → wb ≤ mi f u 5 ∧ mi f u 5 ≤ 6 ∧ mi f u 3 ≤ mi f u 2) ∧ 0 ≤ mi f u 3 ∧ cdv f G u ≤ mi f u 3) → Met l yX12_goOnAnd w_X12_goOnAnd ({ frames := fr, cells := 0, slots := 0, locals := lo }) (py_Pc E [.ref u] L f sz) (py_Qv E L f sz (fun L1 f1 => (mi f u 3 ≤ mi f1 u 3 ∧ cdv f1 G u - cdv f G u ≤ mi f1 u 3 - mi f u 3) ∧ (mi f u 4 = -1 → mi f1 u 3 ≤ 167 - mi f u 5) ∧ (mi f u 4 ≠ -1 → mi f1 u 3 = mi f u 3 ∧ mi f1 u 4 ≠ -1) ∧ (mi f1 u 4 = -1 → mi f1 u 5 = mi f u 5 ∧ mi f1 u 3 ≤ mi f u 2) ∧ (TR f f1 G u (19 - 2 * wb) 1 1) ∧ WF E G L1 f1 ∧ KP G [41, 42, 43, 13] false f f1 ∧ FK [3, 4, 5] f f1 u)) 0 0 (va_A (va_pl L f) sz)
def Q_goOnOr (l : Launch) (E : py_E) (G : wf_G) (wb : Int) (fr lo : Nat) : Prop := ∀ (L : List Nat) (f : py_F) (sz : Nat) (u : Nat), WF E G L f → G.1 u = 13 → ((mi f u 4 = -1 → wb ≤ mi f u 5 ∧ mi f u 5 ≤ 6 ∧ mi f u 3 ≤ mi f u 2) ∧ 0 ≤ mi f u 3 ∧ cdv f G u ≤ mi f u 3) → Met l yX12_goOnOr w_X12_goOnOr ({ frames := fr, cells := 0, slots := 0, locals := lo }) (py_Pc E [.ref u] L f sz) (py_Qv E L f sz (fun L1 f1 => (mi f u 3 ≤ mi f1 u 3 ∧ cdv f1 G u - cdv f G u ≤ mi f1 u 3 - mi f u 3) ∧ (mi f u 4 = -1 → mi f1 u 3 ≤ 167 - mi f u 5) ∧ (mi f u 4 ≠ -1 → mi f1 u 3 = mi f u 3 ∧ mi f1 u 4 ≠ -1) ∧ (mi f1 u 4 = -1 → mi f1 u 5 = mi f u 5 ∧ mi f1 u 3 ≤ mi f u 2) ∧ (TR f f1 G u (20 - 2 * wb) 1 1) ∧ WF E G L1 f1 ∧ KP G [41, 42, 43, 13] false f f1 ∧ FK [3, 4, 5] f f1 u)) 0 0 (va_A (va_pl L f) sz)
def Q_condition (l : Launch) (E : py_E) (G : wf_G) (wb : Int) (fr lo : Nat) : Prop := ∀ (L : List Nat) (f : py_F) (sz : Nat) (u : Nat), WF E G L f → G.1 u = 13 → (mi f u 4 = -1 ∧ wb ≤ mi f u 5 ∧ mi f u 5 ≤ 6 ∧ 0 ≤ mi f u 3 ∧ mi f u 3 ≤ mi f u 2 ∧ cdv f G u ≤ mi f u 3) → Met l yX12_condition w_X12_condition ({ frames := fr, cells := 0, slots := 0, locals := lo }) (py_Pc E [.ref u] L f sz) (py_Qv E L f sz (fun L1 f1 => (mi f u 3 ≤ mi f1 u 3 ∧ cdv f1 G u - cdv f G u ≤ mi f1 u 3 - mi f u 3 ∧ mi f1 u 3 ≤ 167 - mi f u 5) ∧ (mi f1 u 4 = -1 → mi f1 u 5 = mi f u 5 ∧ mi f1 u 3 ≤ mi f u 2) ∧ (TR f f1 G u (20 - 2 * wb) 0 1) ∧ WF E G L1 f1 ∧ KP G [41, 42, 43, 13] false f f1 ∧ FK [3, 4, 5] f f1 u)) 0 0 (va_A (va_pl L f) sz)
theorem fk_3_4_5 {E : py_E} {G : wf_G} {L L1 : List Nat} {f f1 : py_F} {m : Nat} (hWF : WF E G L1 f1) (Tm : G.1 m = 13) (h : FK [3, 4, 5] f f1 m) {v0 : Int32} {v2 : Int32} {v3 : Int32} {v4 : Int32} {v5 : Int32} {v13 : Int32} {v14 : Int32} {v19 : Int32} {v20 : Int32} {v24 : Int32} {v25 : Int32} {v29 : Int32} {v30 : Int64} {v31 : Int32} {v32 : Int32} {v33 : Int32} {v34 : Int32} {v43 : Int32} {v48 : Int64} {v51 : Int32} {v52 : Int64} {v53 : Int32} (hr : py_at L f m (.inr (12, [.int v0, .ref (G.2 m 1), .int v2, .int v3, .int v4, .int v5, .ref (G.2 m 6), .ref (G.2 m 7), .ref (G.2 m 8), .ref (G.2 m 9), .ref (G.2 m 10), .ref (G.2 m 11), .ref (G.2 m 12), .int v13, .int v14, .ref (G.2 m 15), .ref (G.2 m 16), .ref (G.2 m 17), .ref (G.2 m 18), .int v19, .int v20, .ref (G.2 m 21), .ref (G.2 m 22), .ref (G.2 m 23), .int v24, .int v25, .ref (G.2 m 26), .ref (G.2 m 27), .ref (G.2 m 28), .int v29, .long v30, .int v31, .int v32, .int v33, .int v34, .ref (G.2 m 35), .ref (G.2 m 36), .ref (G.2 m 37), .ref (G.2 m 38), .ref (G.2 m 39), .ref (G.2 m 40), .ref (G.2 m 41), .ref (G.2 m 42), .int v43, .ref (G.2 m 44), .ref (G.2 m 45), .ref (G.2 m 46), .ref (G.2 m 47), .long v48, .ref (G.2 m 49), .ref (G.2 m 50), .int v51, .long v52, .int v53]))) : ∃ (w3 : Int32) (w4 : Int32) (w5 : Int32), py_at L1 f1 m (.inr (12, [.int v0, .ref (G.2 m 1), .int v2, .int w3, .int w4, .int w5, .ref (G.2 m 6), .ref (G.2 m 7), .ref (G.2 m 8), .ref (G.2 m 9), .ref (G.2 m 10), .ref (G.2 m 11), .ref (G.2 m 12), .int v13, .int v14, .ref (G.2 m 15), .ref (G.2 m 16), .ref (G.2 m 17), .ref (G.2 m 18), .int v19, .int v20, .ref (G.2 m 21), .ref (G.2 m 22), .ref (G.2 m 23), .int v24, .int v25, .ref (G.2 m 26), .ref (G.2 m 27), .ref (G.2 m 28), .int v29, .long v30, .int v31, .int v32, .int v33, .int v34, .ref (G.2 m 35), .ref (G.2 m 36), .ref (G.2 m 37), .ref (G.2 m 38), .ref (G.2 m 39), .ref (G.2 m 40), .ref (G.2 m 41), .ref (G.2 m 42), .int v43, .ref (G.2 m 44), .ref (G.2 m 45), .ref (G.2 m 46), .ref (G.2 m 47), .long v48, .ref (G.2 m 49), .ref (G.2 m 50), .int v51, .long v52, .int v53])) := by
  obtain ⟨w0, w2, w3, w4, w5, w13, w14, w19, w20, w24, w25, w29, w30, w31, w32, w33, w34, w43, w48, w51, w52, w53, hr1, b2, b13, b14, b19, b20, b24, b25, b29, b31, b43, b51, b53⟩ := wg_12 hWF Tm
  have e0 : w0 = v0 := Value.int.inj (Option.some.inj (show some (Value.int w0) = some (Value.int v0) from fk_i h hr hr1 0 (by decide) (by decide)))
  subst e0
  have e2 : w2 = v2 := Value.int.inj (Option.some.inj (show some (Value.int w2) = some (Value.int v2) from fk_i h hr hr1 2 (by decide) (by decide)))
  subst e2
  have e13 : w13 = v13 := Value.int.inj (Option.some.inj (show some (Value.int w13) = some (Value.int v13) from fk_i h hr hr1 13 (by decide) (by decide)))
  subst e13
  have e14 : w14 = v14 := Value.int.inj (Option.some.inj (show some (Value.int w14) = some (Value.int v14) from fk_i h hr hr1 14 (by decide) (by decide)))
  subst e14
  have e19 : w19 = v19 := Value.int.inj (Option.some.inj (show some (Value.int w19) = some (Value.int v19) from fk_i h hr hr1 19 (by decide) (by decide)))
  subst e19
  have e20 : w20 = v20 := Value.int.inj (Option.some.inj (show some (Value.int w20) = some (Value.int v20) from fk_i h hr hr1 20 (by decide) (by decide)))
  subst e20
  have e24 : w24 = v24 := Value.int.inj (Option.some.inj (show some (Value.int w24) = some (Value.int v24) from fk_i h hr hr1 24 (by decide) (by decide)))
  subst e24
  have e25 : w25 = v25 := Value.int.inj (Option.some.inj (show some (Value.int w25) = some (Value.int v25) from fk_i h hr hr1 25 (by decide) (by decide)))
  subst e25
  have e29 : w29 = v29 := Value.int.inj (Option.some.inj (show some (Value.int w29) = some (Value.int v29) from fk_i h hr hr1 29 (by decide) (by decide)))
  subst e29
  have e30 : w30 = v30 := Value.long.inj (Option.some.inj (show some (Value.long w30) = some (Value.long v30) from fk_i h hr hr1 30 (by decide) (by decide)))
  subst e30
  have e31 : w31 = v31 := Value.int.inj (Option.some.inj (show some (Value.int w31) = some (Value.int v31) from fk_i h hr hr1 31 (by decide) (by decide)))
  subst e31
  have e32 : w32 = v32 := Value.int.inj (Option.some.inj (show some (Value.int w32) = some (Value.int v32) from fk_i h hr hr1 32 (by decide) (by decide)))
  subst e32
  have e33 : w33 = v33 := Value.int.inj (Option.some.inj (show some (Value.int w33) = some (Value.int v33) from fk_i h hr hr1 33 (by decide) (by decide)))
  subst e33
  have e34 : w34 = v34 := Value.int.inj (Option.some.inj (show some (Value.int w34) = some (Value.int v34) from fk_i h hr hr1 34 (by decide) (by decide)))
  subst e34
  have e43 : w43 = v43 := Value.int.inj (Option.some.inj (show some (Value.int w43) = some (Value.int v43) from fk_i h hr hr1 43 (by decide) (by decide)))
  subst e43
  have e48 : w48 = v48 := Value.long.inj (Option.some.inj (show some (Value.long w48) = some (Value.long v48) from fk_i h hr hr1 48 (by decide) (by decide)))
  subst e48
  have e51 : w51 = v51 := Value.int.inj (Option.some.inj (show some (Value.int w51) = some (Value.int v51) from fk_i h hr hr1 51 (by decide) (by decide)))
  subst e51
  have e52 : w52 = v52 := Value.long.inj (Option.some.inj (show some (Value.long w52) = some (Value.long v52) from fk_i h hr hr1 52 (by decide) (by decide)))
  subst e52
  have e53 : w53 = v53 := Value.int.inj (Option.some.inj (show some (Value.int w53) = some (Value.int v53) from fk_i h hr hr1 53 (by decide) (by decide)))
  subst e53
  exact ⟨w3, w4, w5, hr1⟩
set_option maxHeartbeats 4000000 in
set_option maxRecDepth 100000 in
theorem q_atom (l : Launch) (E : py_E) (G : wf_G) (hG : GT G) (wb : Int) (hwb : 0 ≤ wb) (fr lo : Nat) (hfr : 10 ≤ fr) (hlo : 300 ≤ lo) (f_sum l_sum : Nat) (x_sum : f_sum ≤ fr) (z_sum : l_sum ≤ lo) (ih_sum : Q_sum l E G (wb + 1) f_sum l_sum) : Q_atom l E G wb (fr + 1) (lo + 60) := by
  intro L f sz u hWF Tu hp0
  refine Met.ofW (cc := cX12_atom) (maxL := 2) (ret := none) (by decide) rfl ?_
  intro p e s m args below meth c s₁ B hml hv
  obtain ⟨rfl, rfl, hw⟩ := py_start hv
  have G0 : CallFix p m c cX12_atom 2 s _ w_X12_atom RX12 := ⟨B.exec, B.bytes, hml, findClass_of_methodNamed B.named, atoms_spec (ws := w_X12_atom) B.pre⟩
  have hr := B.returns
  have hlk := B.notSynchronized
  have kcm1 : (-1 : Int32).toInt = -1 := rfl
  have kc0 : (0 : Int32).toInt = 0 := rfl
  have kc1 : (1 : Int32).toInt = 1 := rfl
  have kc91 : (91 : Int32).toInt = 91 := rfl
  have kc93 : (93 : Int32).toInt = 93 := rfl
  have hl := lv_entry ([.ref u]) (n := 2) (Nat.le_of_ble_eq_true rfl)
  rw [lg_entry_eq]
  generalize (lg_sl ([.ref u]) ++ List.replicate (2 - (lg_sl ([.ref u])).length) Slot.unset).toArray = ls at hl ⊢
  have hl : lv_has ls 2 [(0, .ref u)] := hl
  have hKP : KP G [41, 42, 43, 13] false f f := KP.refl
  have hFK : FK [3, 4, 5] f f u := FK.refl
  obtain ⟨v_1, v_2, v_3, v_4, v_5, v_6, v_7, v_8, v_9, v_10, v_11, v_12, y_13, v_14, v_15, v_16, v_17, v_18, y_19, v_20, y_21, v_22, hr_35, b_23, b_24, b_25, b_26, b_27, b_28, b_29, b_30, b_31, b_32, b_33, b_34⟩ := wg_12 hWF Tu
  have tq_36 := mi_row hr_35 2 rfl
  have tq_37 := mi_row hr_35 3 rfl
  have bv_3 := wf_free v_3
  have tq_38 := mi_row hr_35 4 rfl
  have bv_4 := wf_free v_4
  have tq_39 := mi_row hr_35 5 rfl
  have bv_5 := wf_free v_5
  have tq_40 := mi_row hr_35 14 rfl
  have hcd := cdv_rng hG hWF Tu (by omega) (by omega)
  have hTR : TR f f G u (13 - 2 * wb) 0 0 := TR.refl (by omega) (by omega)
  refine lv_aload_n G0.1 G0.2.1 dX12_atom_0 rfl (lv_at hl 0 rfl) ?_
  refine py_calli hw (va_runV (As := []) (rest := []) G0 (c_X12_look l E G L f s.heap.size u hG hWF Tu (show 0 ≤ mi f u 3 ∧ mi f u 3 ≤ mi f u 2 by omega)) (cwV 0 G0.2.2.2.2 g_X12_atom_X12_look_146 rfl rfl rfl (by decide +kernel) ⟨(show 1 + 1 ≤ fr + 1 by omega), (show 8 + (1 + 11) + 20 ≤ lo + 60 by omega)⟩) (py_preV hw (C := RX12) (T := TX12) (N := 54) rfl hr_35) rfl rfl hl.1 rfl (lv_room (Nat.le_of_ble_eq_true rfl)) dX12_atom_1 ⟨(Nat.le_of_ble_eq_true rfl), (Nat.le_of_ble_eq_true rfl)⟩) (fun r_45 L_41 f_42 H_43 locs hp_44 hw => ?_)
  obtain ⟨en_46, en_47, en_48, hWF, kp_49, fk_50⟩ := hp_44
  have cq_51 := cdv_k hG Tu kp_49 fk_50 (by decide)
  have hFK := hFK.trans fk_50 (by decide)
  have hKP := hKP.trans kp_49 (by decide) (by decide)
  obtain ⟨v_52, hr_53⟩ := fk_3 hWF Tu fk_50 hr_35
  have tq_54 := mi_row hr_53 2 rfl
  have tq_55 := mi_row hr_53 3 rfl
  have bv_52 := wf_free v_52
  have tq_56 := mi_row hr_53 4 rfl
  have bv_4 := wf_free v_4
  have tq_57 := mi_row hr_53 5 rfl
  have bv_5 := wf_free v_5
  have tq_58 := mi_row hr_53 14 rfl
  have hTR := hTR.kp hG Tu kp_49 fk_50 (by decide) (fun q => by omega)
  have br_45 := wf_free r_45
  refine lv_istore_n (lv' := [(1, .int r_45), (0, .ref u)]) G0.1 G0.2.1 dX12_atom_4 rfl hl (by decide) rfl (fun ls hl => ?_)
  refine lv_iload_n G0.1 G0.2.1 dX12_atom_5 rfl (lv_at hl 0 rfl) ?_
  refine py_calli hw (va_runS (As := [.int r_45]) (rest := []) G0 (c_X12_isDigit l E G L_41 f_42 H_43.size r_45 hG hWF) (va_cwS 1 G0.2.2.2.2 g_X12_atom_X12_isDigit_149 rfl rfl rfl (by decide +kernel) ⟨(show 0 + 1 ≤ fr + 1 by omega), (show 8 + (1 + 11) + 0 ≤ lo + 60 by omega)⟩) (py_preS hw) rfl rfl hl.1 rfl (lv_room (Nat.le_of_ble_eq_true rfl)) dX12_atom_6 ⟨(Nat.le_of_ble_eq_true rfl), (Nat.le_of_ble_eq_true rfl)⟩) (fun r_63 L_59 f_60 H_61 locs hp_62 hw => ?_)
  obtain ⟨b_66, en_64, en_65, rfl, rfl⟩ := hp_62
  refine lv_if_eq (tgt := 24) G0.1 G0.2.1 dX12_atom_9 (by decide) (fun c_67 => ?_) (fun c_67 => ?_)
  · skip
    have tc_67 := ti_eq c_67
    clear en_64
    replace en_65 := en_65 (by omega)
    refine lv_iload_n G0.1 G0.2.1 dX12_atom_24 rfl (lv_at hl 0 rfl) ?_
    refine py_calli hw (va_runS (As := [.int r_45]) (rest := []) G0 (c_X12_letterOf l E G L_41 f_42 H_61.size r_45 hG hWF) (va_cwS 1 G0.2.2.2.2 g_X12_atom_X12_letterOf_160 rfl rfl rfl (by decide +kernel) ⟨(show 0 + 1 ≤ fr + 1 by omega), (show 8 + (1 + 11) + 0 ≤ lo + 60 by omega)⟩) (py_preS hw) rfl rfl hl.1 rfl (lv_room (Nat.le_of_ble_eq_true rfl)) dX12_atom_25 ⟨(Nat.le_of_ble_eq_true rfl), (Nat.le_of_ble_eq_true rfl)⟩) (fun r_72 L_68 f_69 H_70 locs hp_71 hw => ?_)
    obtain ⟨b_75, en_73, en_74, rfl, rfl⟩ := hp_71
    refine lv_iconst (v := (-1)) G0.1 G0.2.1 dX12_atom_28 (by decide) ?_
    refine lv_icmp_eq (tgt := 54) G0.1 G0.2.1 dX12_atom_29 (by decide) (fun c_76 => ?_) (fun c_76 => ?_)
    · skip
      have tc_76 := ti_eq c_76
      clear en_73
      replace en_74 := en_74 (by omega)
      refine lv_iload_n G0.1 G0.2.1 dX12_atom_54 rfl (lv_at hl 0 rfl) ?_
      refine lv_bipush (v := 91) G0.1 G0.2.1 dX12_atom_55 (by decide) ?_
      refine lv_icmp_ne (tgt := 85) G0.1 G0.2.1 dX12_atom_57 (by decide) (fun c_77 => ?_) (fun c_77 => ?_)
      · skip
        have tc_77 := ti_ne c_77
        refine lv_aload_n G0.1 G0.2.1 dX12_atom_85 rfl (lv_at hl 1 rfl) ?_
        refine py_callv hw (va_runV (As := []) (rest := []) G0 (c_X12_bad l E G L_41 f_42 H_70.size u hG hWF Tu (show 0 ≤ mi f_42 u 3 by omega)) (cwV 0 G0.2.2.2.2 g_X12_atom_X12_bad_143 rfl rfl rfl (by decide +kernel) ⟨(show 0 + 1 ≤ fr + 1 by omega), (show 8 + (1 + 11) + 0 ≤ lo + 60 by omega)⟩) (py_preV hw (C := RX12) (T := TX12) (N := 54) rfl hr_53) rfl rfl hl.1 rfl (lv_room (Nat.le_of_ble_eq_true rfl)) dX12_atom_86 ⟨(Nat.le_of_ble_eq_true rfl), (Nat.le_of_ble_eq_true rfl)⟩) (fun L_78 f_79 H_80 locs hp_81 hw => ?_)
        obtain ⟨en_83, en_84, hWF, kp_85, fk_86⟩ := hp_81
        have cq_87 := cdv_k hG Tu kp_85 fk_86 (by decide)
        have hFK := hFK.trans fk_86 (by decide)
        have hKP := hKP.trans kp_85 (by decide) (by decide)
        obtain ⟨v_88, hr_89⟩ := fk_4 hWF Tu fk_86 hr_53
        have tq_90 := mi_row hr_89 2 rfl
        have tq_91 := mi_row hr_89 3 rfl
        have bv_52 := wf_free v_52
        have tq_92 := mi_row hr_89 4 rfl
        have bv_88 := wf_free v_88
        have tq_93 := mi_row hr_89 5 rfl
        have bv_5 := wf_free v_5
        have tq_94 := mi_row hr_89 14 rfl
        have hTR := hTR.kp hG Tu kp_85 fk_86 (by decide) (fun q => by omega)
        exact py_vret G0 hr hlk hw ⟨(by first | omega | (intro q; omega)), (by first | omega | (intro q; omega)), (hTR.wrong (by omega)), hWF, hKP, hFK⟩ dX12_atom_89
      · skip
        have tc_77 := ti_eq c_77
        replace en_47 := en_47 (by omega)
        refine lv_aload_n G0.1 G0.2.1 dX12_atom_60 rfl (lv_at hl 1 rfl) ?_
        refine py_callv hw (va_runV (As := []) (rest := []) G0 (c_X12_opens l E G L_41 f_42 H_70.size u hG hWF Tu (show 0 ≤ mi f_42 u 3 ∧ mi f_42 u 3 ≤ 1000 ∧ 0 ≤ mi f_42 u 5 ∧ mi f_42 u 5 ≤ 6 by omega)) (cwV 0 G0.2.2.2.2 g_X12_atom_X12_opens_164 rfl rfl rfl (by decide +kernel) ⟨(show 1 + 1 ≤ fr + 1 by omega), (show 8 + (1 + 11) + 20 ≤ lo + 60 by omega)⟩) (py_preV hw (C := RX12) (T := TX12) (N := 54) rfl hr_53) rfl rfl hl.1 rfl (lv_room (Nat.le_of_ble_eq_true rfl)) dX12_atom_61 ⟨(Nat.le_of_ble_eq_true rfl), (Nat.le_of_ble_eq_true rfl)⟩) (fun L_95 f_96 H_97 locs hp_98 hw => ?_)
        obtain ⟨en_100, en_101, en_102, en_103, hWF, kp_104, fk_105⟩ := hp_98
        have cq_106 := cdv_k hG Tu kp_104 fk_105 (by decide)
        have hFK := hFK.trans fk_105 (by decide)
        have hKP := hKP.trans kp_104 (by decide) (by decide)
        obtain ⟨v_107, v_108, v_109, hr_110⟩ := fk_3_4_5 hWF Tu fk_105 hr_53
        have tq_111 := mi_row hr_110 2 rfl
        have tq_112 := mi_row hr_110 3 rfl
        have bv_107 := wf_free v_107
        have tq_113 := mi_row hr_110 4 rfl
        have bv_108 := wf_free v_108
        have tq_114 := mi_row hr_110 5 rfl
        have bv_109 := wf_free v_109
        have tq_115 := mi_row hr_110 14 rfl
        have hTR := hTR.kp hG Tu kp_104 fk_105 (by decide) (fun q => by omega)
        refine lv_aload_n G0.1 G0.2.1 dX12_atom_64 rfl (lv_at hl 1 rfl) ?_
        refine py_get (C := RX12) (T := TX12) (N := 54) (k := 4) (v := .int v_108) G0 hw in_X12_atom_X12 rfl hr_110 (by decide) (by decide +kernel) rfl dX12_atom_65 ?_
        refine lv_iconst (v := (-1)) G0.1 G0.2.1 dX12_atom_68 (by decide) ?_
        refine lv_icmp_ne (tgt := 89) G0.1 G0.2.1 dX12_atom_69 (by decide) (fun c_116 => ?_) (fun c_116 => ?_)
        · skip
          have tc_116 := ti_ne c_116
          exact py_vret G0 hr hlk hw ⟨(by first | omega | (intro q; omega)), (by first | omega | (intro q; omega)), (hTR.wrong (by omega)), hWF, hKP, hFK⟩ dX12_atom_89
        · skip
          have tc_116 := ti_eq c_116
          refine lv_aload_n G0.1 G0.2.1 dX12_atom_72 rfl (lv_at hl 1 rfl) ?_
          refine py_callv hw (va_runV (As := []) (rest := []) G0 (ih_sum L_95 f_96 H_97.size u hWF Tu (show mi f_96 u 4 = -1 ∧ (wb + 1) ≤ mi f_96 u 5 ∧ mi f_96 u 5 ≤ 6 ∧ 0 ≤ mi f_96 u 3 ∧ mi f_96 u 3 ≤ mi f_96 u 2 ∧ cdv f_96 G u ≤ mi f_96 u 3 by omega)) (cwV 0 G0.2.2.2.2 g_X12_atom_X12_sum_167 rfl rfl rfl (by decide +kernel) ⟨(show f_sum + 1 ≤ fr + 1 by omega), (show 8 + (2 + 11) + l_sum ≤ lo + 60 by omega)⟩) (py_preV hw (C := RX12) (T := TX12) (N := 54) rfl hr_110) rfl rfl hl.1 rfl (lv_room (Nat.le_of_ble_eq_true rfl)) dX12_atom_73 ⟨(Nat.le_of_ble_eq_true rfl), (Nat.le_of_ble_eq_true rfl)⟩) (fun L_117 f_118 H_119 locs hp_120 hw => ?_)
          obtain ⟨en_122, en_123, en_124, hWF, kp_125, fk_126⟩ := hp_120
          have hFK := hFK.trans fk_126 (by decide)
          have hKP := hKP.trans kp_125 (by decide) (by decide)
          obtain ⟨v_127, v_128, v_129, hr_130⟩ := fk_3_4_5 hWF Tu fk_126 hr_110
          have tq_131 := mi_row hr_130 2 rfl
          have tq_132 := mi_row hr_130 3 rfl
          have bv_127 := wf_free v_127
          have tq_133 := mi_row hr_130 4 rfl
          have bv_128 := wf_free v_128
          have tq_134 := mi_row hr_130 5 rfl
          have bv_129 := wf_free v_129
          have tq_135 := mi_row hr_130 14 rfl
          have hTR : TR f f_118 G u (13 - 2 * wb) 0 1 := hTR.trans (en_124.lift (b := 0) (by omega) (by omega) (by omega) (by omega)) (fun q => by omega)
          refine lv_aload_n G0.1 G0.2.1 dX12_atom_76 rfl (lv_at hl 1 rfl) ?_
          refine lv_bipush (v := 93) G0.1 G0.2.1 dX12_atom_77 (by decide) ?_
          refine py_callv hw (va_runV (As := [.int 93]) (rest := []) G0 (c_X12_closes l E G L_117 f_118 H_119.size u 93 hG hWF Tu (show 0 ≤ mi f_118 u 3 ∧ mi f_118 u 3 ≤ 1000 ∧ (93 : Int32).toInt ≠ -1 by omega) (show mi f_118 u 4 = -1 → mi f_118 u 3 ≤ mi f_118 u 2 by omega)) (cwV 1 G0.2.2.2.2 g_X12_atom_X12_closes_170 rfl rfl rfl (by decide +kernel) ⟨(show 2 + 1 ≤ fr + 1 by omega), (show 8 + (2 + 11) + 40 ≤ lo + 60 by omega)⟩) (py_preV hw (C := RX12) (T := TX12) (N := 54) rfl hr_130) rfl rfl hl.1 rfl (lv_room (Nat.le_of_ble_eq_true rfl)) dX12_atom_79 ⟨(Nat.le_of_ble_eq_true rfl), (Nat.le_of_ble_eq_true rfl)⟩) (fun L_136 f_137 H_138 locs hp_139 hw => ?_)
          obtain ⟨en_141, en_142, en_143, en_144, en_145, hWF, kp_146, fk_147⟩ := hp_139
          have cq_148 := cdv_k hG Tu kp_146 fk_147 (by decide)
          have hFK := hFK.trans fk_147 (by decide)
          have hKP := hKP.trans kp_146 (by decide) (by decide)
          obtain ⟨v_149, v_150, v_151, hr_152⟩ := fk_3_4_5 hWF Tu fk_147 hr_130
          have tq_153 := mi_row hr_152 2 rfl
          have tq_154 := mi_row hr_152 3 rfl
          have bv_149 := wf_free v_149
          have tq_155 := mi_row hr_152 4 rfl
          have bv_150 := wf_free v_150
          have tq_156 := mi_row hr_152 5 rfl
          have bv_151 := wf_free v_151
          have tq_157 := mi_row hr_152 14 rfl
          have hTR := hTR.kp hG Tu kp_146 fk_147 (by decide) (fun q => by omega)
          refine lv_goto (tgt := 89) G0.1 G0.2.1 dX12_atom_82 (by decide) ?_
          exact py_vret G0 hr hlk hw ⟨(by first | omega | (intro q; omega)), (by first | omega | (intro q; omega)), hTR, hWF, hKP, hFK⟩ dX12_atom_89
    · skip
      have tc_76 := ti_ne c_76
      replace en_73 := en_73 (by omega)
      clear en_74
      refine lv_aload_n G0.1 G0.2.1 dX12_atom_32 rfl (lv_at hl 1 rfl) ?_
      refine lv_dup G0.1 G0.2.1 dX12_atom_33 rfl ?_
      refine py_get (C := RX12) (T := TX12) (N := 54) (k := 3) (v := .int v_52) G0 hw in_X12_atom_X12 rfl hr_53 (by decide) (by decide +kernel) rfl dX12_atom_34 ?_
      refine lv_iconst (v := 1) G0.1 G0.2.1 dX12_atom_37 (by decide) ?_
      refine lv_iadd G0.1 G0.2.1 dX12_atom_38 ?_
      refine lv_topi (fun x_158 ex_158 => ?_)
      first | have tx_158 := ti_add ex_158 (by omega -splitDisjunctions) (by omega -splitDisjunctions) | skip
      refine py_put (C := RX12) (T := TX12) (N := 54) (k := 3) (v := .int x_158) (fs' := [.int v_1, .ref (G.2 u 1), .int v_2, .int x_158, .int v_4, .int v_5, .ref (G.2 u 6), .ref (G.2 u 7), .ref (G.2 u 8), .ref (G.2 u 9), .ref (G.2 u 10), .ref (G.2 u 11), .ref (G.2 u 12), .int v_6, .int v_7, .ref (G.2 u 15), .ref (G.2 u 16), .ref (G.2 u 17), .ref (G.2 u 18), .int v_8, .int v_9, .ref (G.2 u 21), .ref (G.2 u 22), .ref (G.2 u 23), .int v_10, .int v_11, .ref (G.2 u 26), .ref (G.2 u 27), .ref (G.2 u 28), .int v_12, .long y_13, .int v_14, .int v_15, .int v_16, .int v_17, .ref (G.2 u 35), .ref (G.2 u 36), .ref (G.2 u 37), .ref (G.2 u 38), .ref (G.2 u 39), .ref (G.2 u 40), .ref (G.2 u 41), .ref (G.2 u 42), .int v_18, .ref (G.2 u 44), .ref (G.2 u 45), .ref (G.2 u 46), .ref (G.2 u 47), .long y_19, .ref (G.2 u 49), .ref (G.2 u 50), .int v_20, .long y_21, .int v_22]) (ty0 := tyX12) G0 hw tyX12_ok nmX12 in_X12_atom_X12 rfl hr_53 (by decide) (by decide +kernel) rfl rfl rfl rfl (Nat.le_of_ble_eq_true rfl) rfl dX12_atom_39 (fun f_159 H_160 locs h_161 x_162 hw => ?_)
      have hFK := hFK.put hr_53 h_161 3 (by decide) rfl
      have cq_163 := cdv_own (f1 := f_42) (f2 := f_159) hG hWF Tu x_162 (by have z1 := mi_row hr_53 14 rfl; have z2 := mi_row h_161 14 rfl; omega)
      have hTR := hTR.own hG hWF Tu x_162 (by have z1 := mi_row hr_53 14 rfl; have z2 := mi_row h_161 14 rfl; omega) (by intro q; have z1 := mi_row hr_53 4 rfl; have z2 := mi_row h_161 4 rfl; omega)
      have hKP := hKP.upd hWF x_162 Tu (Or.inl (by decide))
      have hWF := wf_upd hWF h_161 x_162 (by rw [Tu]; exact ⟨v_1, v_2, x_158, v_4, v_5, v_6, v_7, v_8, v_9, v_10, v_11, v_12, y_13, v_14, v_15, v_16, v_17, v_18, y_19, v_20, y_21, v_22, rfl, ⟨by omega, by omega⟩, ⟨by omega, by omega⟩, ⟨by omega, by omega⟩, ⟨by omega, by omega⟩, ⟨by omega, by omega⟩, ⟨by omega, by omega⟩, ⟨by omega, by omega⟩, ⟨by omega, by omega⟩, ⟨by omega, by omega⟩, ⟨by omega, by omega⟩, ⟨by omega, by omega⟩, ⟨by omega, by omega⟩⟩)
      have tq_164 := mi_row h_161 2 rfl
      have tq_165 := mi_row h_161 3 rfl
      have bx_158 := wf_free x_158
      have tq_166 := mi_row h_161 4 rfl
      have bv_4 := wf_free v_4
      have tq_167 := mi_row h_161 5 rfl
      have bv_5 := wf_free v_5
      have tq_168 := mi_row h_161 14 rfl
      refine lv_aload_n G0.1 G0.2.1 dX12_atom_42 rfl (lv_at hl 1 rfl) ?_
      refine lv_iconst (v := 1) G0.1 G0.2.1 dX12_atom_43 (by decide) ?_
      refine lv_iload_n G0.1 G0.2.1 dX12_atom_44 rfl (lv_at hl 0 rfl) ?_
      refine py_calli hw (va_runS (As := [.int r_45]) (rest := [.int 1, .ref u]) G0 (c_X12_letterOf l E G L_41 f_159 H_160.size r_45 hG hWF) (va_cwS 1 G0.2.2.2.2 g_X12_atom_X12_letterOf_160 rfl rfl rfl (by decide +kernel) ⟨(show 0 + 1 ≤ fr + 1 by omega), (show 8 + (1 + 11) + 0 ≤ lo + 60 by omega)⟩) (py_preS hw) rfl rfl hl.1 rfl (lv_room (Nat.le_of_ble_eq_true rfl)) dX12_atom_45 ⟨(Nat.le_of_ble_eq_true rfl), (Nat.le_of_ble_eq_true rfl)⟩) (fun r_173 L_169 f_170 H_171 locs hp_172 hw => ?_)
      obtain ⟨b_176, en_174, en_175, rfl, rfl⟩ := hp_172
      refine py_callv hw (va_runV (As := [.int 1, .int r_173]) (rest := []) G0 (c_X12_put l E G L_41 f_159 H_171.size u 1 r_173 hG hWF Tu (show cdv f_159 G u ≤ 339 by omega)) (cwV 2 G0.2.2.2.2 g_X12_atom_X12_put_156 rfl rfl rfl (by decide +kernel) ⟨(show 0 + 1 ≤ fr + 1 by omega), (show 8 + (3 + 11) + 0 ≤ lo + 60 by omega)⟩) (py_preV hw (C := RX12) (T := TX12) (N := 54) rfl h_161) rfl rfl hl.1 rfl (lv_room (Nat.le_of_ble_eq_true rfl)) dX12_atom_48 ⟨(Nat.le_of_ble_eq_true rfl), (Nat.le_of_ble_eq_true rfl)⟩) (fun L_177 f_178 H_179 locs hp_180 hw => ?_)
      obtain ⟨en_182, en_183, hWF, kp_184, fk_185⟩ := hp_180
      have en_182 : PT f_159 f_178 G u (1 : Int32) r_173 := en_182
      have hFK := hFK.trans fk_185 (by decide)
      have hKP := hKP.trans kp_184 (by decide) (by decide)
      have h_161 := kp_at kp_184 hWF Tu (by decide) (by decide) (by decide) h_161
      have tq_186 := mi_row h_161 2 rfl
      have tq_187 := mi_row h_161 3 rfl
      have bx_158 := wf_free x_158
      have tq_188 := mi_row h_161 4 rfl
      have bv_4 := wf_free v_4
      have tq_189 := mi_row h_161 5 rfl
      have bv_5 := wf_free v_5
      have tq_190 := mi_row h_161 14 rfl
      have hTR : TR f f_178 G u (13 - 2 * wb) 0 1 := hTR.trans (en_182.tr (by omega)) (fun q => by omega)
      refine lv_goto (tgt := 89) G0.1 G0.2.1 dX12_atom_51 (by decide) ?_
      exact py_vret G0 hr hlk hw ⟨(by first | omega | (intro q; omega)), (by first | omega | (intro q; omega)), hTR, hWF, hKP, hFK⟩ dX12_atom_89
  · skip
    have tc_67 := ti_ne c_67
    replace en_64 := en_64 (by omega)
    clear en_65
    refine lv_aload_n G0.1 G0.2.1 dX12_atom_12 rfl (lv_at hl 1 rfl) ?_
    refine lv_iconst (v := 0) G0.1 G0.2.1 dX12_atom_13 (by decide) ?_
    refine lv_aload_n G0.1 G0.2.1 dX12_atom_14 rfl (lv_at hl 1 rfl) ?_
    refine py_calli hw (va_runV (As := []) (rest := [.int 0, .ref u]) G0 (c_X12_plainNumber l E G L_41 f_42 H_61.size u hG hWF Tu (show 0 ≤ mi f_42 u 3 ∧ mi f_42 u 3 ≤ mi f_42 u 2 by omega)) (cwV 0 G0.2.2.2.2 g_X12_atom_X12_plainNumber_153 rfl rfl rfl (by decide +kernel) ⟨(show 1 + 1 ≤ fr + 1 by omega), (show 8 + (3 + 11) + 20 ≤ lo + 60 by omega)⟩) (py_preV hw (C := RX12) (T := TX12) (N := 54) rfl hr_53) rfl rfl hl.1 rfl (lv_room (Nat.le_of_ble_eq_true rfl)) dX12_atom_15 ⟨(Nat.le_of_ble_eq_true rfl), (Nat.le_of_ble_eq_true rfl)⟩) (fun r_195 L_191 f_192 H_193 locs hp_194 hw => ?_)
    obtain ⟨en_196, en_197, en_198, hWF, kp_199, fk_200⟩ := hp_194
    have cq_201 := cdv_k hG Tu kp_199 fk_200 (by decide)
    have hFK := hFK.trans fk_200 (by decide)
    have hKP := hKP.trans kp_199 (by decide) (by decide)
    obtain ⟨v_202, v_203, hr_204⟩ := fk_3_4 hWF Tu fk_200 hr_53
    have tq_205 := mi_row hr_204 2 rfl
    have tq_206 := mi_row hr_204 3 rfl
    have bv_202 := wf_free v_202
    have tq_207 := mi_row hr_204 4 rfl
    have bv_203 := wf_free v_203
    have tq_208 := mi_row hr_204 5 rfl
    have bv_5 := wf_free v_5
    have tq_209 := mi_row hr_204 14 rfl
    have hTR := hTR.kp hG Tu kp_199 fk_200 (by decide) (fun q => by omega)
    have br_195 := wf_free r_195
    refine py_callv hw (va_runV (As := [.int 0, .int r_195]) (rest := []) G0 (c_X12_put l E G L_191 f_192 H_193.size u 0 r_195 hG hWF Tu (show cdv f_192 G u ≤ 339 by omega)) (cwV 2 G0.2.2.2.2 g_X12_atom_X12_put_156 rfl rfl rfl (by decide +kernel) ⟨(show 0 + 1 ≤ fr + 1 by omega), (show 8 + (3 + 11) + 0 ≤ lo + 60 by omega)⟩) (py_preV hw (C := RX12) (T := TX12) (N := 54) rfl hr_204) rfl rfl hl.1 rfl (lv_room (Nat.le_of_ble_eq_true rfl)) dX12_atom_18 ⟨(Nat.le_of_ble_eq_true rfl), (Nat.le_of_ble_eq_true rfl)⟩) (fun L_210 f_211 H_212 locs hp_213 hw => ?_)
    obtain ⟨en_215, en_216, hWF, kp_217, fk_218⟩ := hp_213
    have en_215 : PT f_192 f_211 G u (0 : Int32) r_195 := en_215
    have hFK := hFK.trans fk_218 (by decide)
    have hKP := hKP.trans kp_217 (by decide) (by decide)
    have hr_204 := kp_at kp_217 hWF Tu (by decide) (by decide) (by decide) hr_204
    have tq_219 := mi_row hr_204 2 rfl
    have tq_220 := mi_row hr_204 3 rfl
    have bv_202 := wf_free v_202
    have tq_221 := mi_row hr_204 4 rfl
    have bv_203 := wf_free v_203
    have tq_222 := mi_row hr_204 5 rfl
    have bv_5 := wf_free v_5
    have tq_223 := mi_row hr_204 14 rfl
    have hTR : TR f f_211 G u (13 - 2 * wb) 0 1 := hTR.trans (en_215.tr (by omega)) (fun q => by omega)
    refine lv_goto (tgt := 89) G0.1 G0.2.1 dX12_atom_21 (by decide) ?_
    exact py_vret G0 hr hlk hw ⟨(by first | omega | (intro q; omega)), (by first | omega | (intro q; omega)), hTR, hWF, hKP, hFK⟩ dX12_atom_89

set_option maxHeartbeats 4000000 in
set_option maxRecDepth 100000 in
theorem q_term (l : Launch) (E : py_E) (G : wf_G) (hG : GT G) (wb : Int) (hwb : 0 ≤ wb) (fr lo : Nat) (hfr : 10 ≤ fr) (hlo : 300 ≤ lo) (f_atom l_atom : Nat) (x_atom : f_atom ≤ fr) (z_atom : l_atom ≤ lo) (ih_atom : Q_atom l E G wb f_atom l_atom) : Q_term l E G wb (fr + 1) (lo + 60) := by
  intro L f sz u hWF Tu hp0
  refine Met.ofW (cc := cX12_term) (maxL := 2) (ret := none) (by decide) rfl ?_
  intro p e s m args below meth c s₁ B hml hv
  obtain ⟨rfl, rfl, hw⟩ := py_start hv
  have G0 : CallFix p m c cX12_term 2 s _ w_X12_term RX12 := ⟨B.exec, B.bytes, hml, findClass_of_methodNamed B.named, atoms_spec (ws := w_X12_term) B.pre⟩
  have hr := B.returns
  have hlk := B.notSynchronized
  have kcm1 : (-1 : Int32).toInt = -1 := rfl
  have kc0 : (0 : Int32).toInt = 0 := rfl
  have kc1 : (1 : Int32).toInt = 1 := rfl
  have kc4 : (4 : Int32).toInt = 4 := rfl
  have kc5 : (5 : Int32).toInt = 5 := rfl
  have kc42 : (42 : Int32).toInt = 42 := rfl
  have kc47 : (47 : Int32).toInt = 47 := rfl
  have hl := lv_entry ([.ref u]) (n := 2) (Nat.le_of_ble_eq_true rfl)
  rw [lg_entry_eq]
  generalize (lg_sl ([.ref u]) ++ List.replicate (2 - (lg_sl ([.ref u])).length) Slot.unset).toArray = ls at hl ⊢
  have hl : lv_has ls 2 [(0, .ref u)] := hl
  have hKP : KP G [41, 42, 43, 13] false f f := KP.refl
  have hFK : FK [3, 4, 5] f f u := FK.refl
  obtain ⟨v_1, v_2, v_3, v_4, v_5, v_6, v_7, v_8, v_9, v_10, v_11, v_12, y_13, v_14, v_15, v_16, v_17, v_18, y_19, v_20, y_21, v_22, hr_35, b_23, b_24, b_25, b_26, b_27, b_28, b_29, b_30, b_31, b_32, b_33, b_34⟩ := wg_12 hWF Tu
  have tq_36 := mi_row hr_35 2 rfl
  have tq_37 := mi_row hr_35 3 rfl
  have bv_3 := wf_free v_3
  have tq_38 := mi_row hr_35 4 rfl
  have bv_4 := wf_free v_4
  have tq_39 := mi_row hr_35 5 rfl
  have bv_5 := wf_free v_5
  have tq_40 := mi_row hr_35 14 rfl
  have hcd := cdv_rng hG hWF Tu (by omega) (by omega)
  have hTR : TR f f G u (14 - 2 * wb) 0 0 := TR.refl (by omega) (by omega)
  refine lv_aload_n G0.1 G0.2.1 dX12_term_0 rfl (lv_at hl 0 rfl) ?_
  refine py_callv hw (va_runV (As := []) (rest := []) G0 (ih_atom L f s.heap.size u hWF Tu (show mi f u 4 = -1 ∧ wb ≤ mi f u 5 ∧ mi f u 5 ≤ 6 ∧ 0 ≤ mi f u 3 ∧ mi f u 3 ≤ mi f u 2 ∧ cdv f G u ≤ mi f u 3 by omega)) (cwV 0 G0.2.2.2.2 g_X12_term_X12_atom_174 rfl rfl rfl (by decide +kernel) ⟨(show f_atom + 1 ≤ fr + 1 by omega), (show 8 + (2 + 11) + l_atom ≤ lo + 60 by omega)⟩) (py_preV hw (C := RX12) (T := TX12) (N := 54) rfl hr_35) rfl rfl hl.1 rfl (lv_room (Nat.le_of_ble_eq_true rfl)) dX12_term_1 ⟨(Nat.le_of_ble_eq_true rfl), (Nat.le_of_ble_eq_true rfl)⟩) (fun L_41 f_42 H_43 locs hp_44 hw => ?_)
  obtain ⟨en_46, en_47, en_48, hWF, kp_49, fk_50⟩ := hp_44
  have hFK := hFK.trans fk_50 (by decide)
  have hKP := hKP.trans kp_49 (by decide) (by decide)
  obtain ⟨v_51, v_52, v_53, hr_54⟩ := fk_3_4_5 hWF Tu fk_50 hr_35
  have tq_55 := mi_row hr_54 2 rfl
  have tq_56 := mi_row hr_54 3 rfl
  have bv_51 := wf_free v_51
  have tq_57 := mi_row hr_54 4 rfl
  have bv_52 := wf_free v_52
  have tq_58 := mi_row hr_54 5 rfl
  have bv_53 := wf_free v_53
  have tq_59 := mi_row hr_54 14 rfl
  have hTR : TR f f_42 G u (14 - 2 * wb) 0 1 := hTR.trans (en_48.lift (b := 0) (by omega) (by omega) (by omega) (by omega)) (fun q => by omega)
  refine lv_aload_n G0.1 G0.2.1 dX12_term_4 rfl (lv_at hl 0 rfl) ?_
  refine py_get (C := RX12) (T := TX12) (N := 54) (k := 4) (v := .int v_52) G0 hw in_X12_term_X12 rfl hr_54 (by decide) (by decide +kernel) rfl dX12_term_5 ?_
  refine lv_iconst (v := (-1)) G0.1 G0.2.1 dX12_term_8 (by decide) ?_
  refine lv_icmp_ne (tgt := 19) G0.1 G0.2.1 dX12_term_9 (by decide) (fun c_60 => ?_) (fun c_60 => ?_)
  · skip
    have tc_60 := ti_ne c_60
    clear en_47
    refine lv_iconst (v := (-1)) G0.1 G0.2.1 dX12_term_19 (by decide) ?_
    refine lv_istore_n (lv' := [(1, .int (-1)), (0, .ref u)]) G0.1 G0.2.1 dX12_term_20 rfl hl (by decide) rfl (fun ls hl => ?_)
    have lo_21 : ∀ n_21 : Nat, ∀ (v_61 : Int32) (L_j21 : List Nat) (f_j21 : py_F) (H_j21 : Heap) (locs : List Loc) (ls : Array Slot), (mi f u 2 - mi f_j21 u 3).toNat = n_21 → WF E G L_j21 f_j21 → KP G [41, 42, 43, 13] false f f_j21 → FK [3, 4, 5] f f_j21 u → TR f f_j21 G u (14 - 2 * wb) 0 1 → (mi f u 3 ≤ mi f_j21 u 3 ∧ cdv f_j21 G u - cdv f G u ≤ mi f_j21 u 3 - mi f u 3 ∧ mi f_j21 u 3 ≤ 167 - mi f u 5) → (mi f_j21 u 4 = -1 → mi f_j21 u 5 = mi f u 5 ∧ mi f_j21 u 3 ≤ mi f u 2) → (v_61.toInt ≠ -1 → mi f_j21 u 4 = -1 ∧ mi f_j21 u 3 < mi f u 2) → (mi f_j21 u 2 = mi f u 2) → py_W E (va_A (va_pl L f) s.heap.size) s L_j21 f_j21 H_j21 locs → lv_has ls 2 [(1, .int v_61), (0, .ref u)] → W p l e (headSpec w_X12_term ({ frames := fr + 1, cells := 0, slots := 0, locals := lo + 60 })).room s m ([.ref u] : List Value).toArray below meth c H_j21 locs 0 0 (MQ below (py_Qv E L f s.heap.size (fun L1 f1 => (mi f u 3 ≤ mi f1 u 3 ∧ cdv f1 G u - cdv f G u ≤ mi f1 u 3 - mi f u 3 ∧ mi f1 u 3 ≤ 167 - mi f u 5) ∧ (mi f1 u 4 = -1 → mi f1 u 5 = mi f u 5 ∧ mi f1 u 3 ≤ mi f u 2) ∧ (TR f f1 G u (14 - 2 * wb) 0 1) ∧ WF E G L1 f1 ∧ KP G [41, 42, 43, 13] false f f1 ∧ FK [3, 4, 5] f f1 u)) ([.ref u] : List Value).toArray s 0 0 (va_A (va_pl L f) s.heap.size)) (F0 m 21 ls []) := by
      intro n_21
      induction n_21 using Nat.strongRecOn with
      | _ n_21 ih_21 =>
        intro v_61 L_j21 f_j21 H_j21 locs ls hn_21 hWF hKP hFK hTR iv0 iv1 iv2 iv3 hw hl
        refine lv_iload_n G0.1 G0.2.1 dX12_term_21 rfl (lv_at hl 0 rfl) ?_
        refine lv_bipush (v := 42) G0.1 G0.2.1 dX12_term_22 (by decide) ?_
        refine lv_icmp_eq (tgt := 33) G0.1 G0.2.1 dX12_term_24 (by decide) (fun c_62 => ?_) (fun c_62 => ?_)
        · skip
          have tc_62 := ti_eq c_62
          replace iv2 := iv2 (by omega)
          refine lv_aload_n G0.1 G0.2.1 dX12_term_33 rfl (lv_at hl 1 rfl) ?_
          refine lv_dup G0.1 G0.2.1 dX12_term_34 rfl ?_
          obtain ⟨v_63, v_64, v_65, v_66, v_67, v_68, v_69, v_70, v_71, v_72, v_73, v_74, y_75, v_76, v_77, v_78, v_79, v_80, y_81, v_82, y_83, v_84, hr_97, b_85, b_86, b_87, b_88, b_89, b_90, b_91, b_92, b_93, b_94, b_95, b_96⟩ := wg_12 hWF Tu
          have tq_98 := mi_row hr_97 2 rfl
          have tq_99 := mi_row hr_97 3 rfl
          have bv_65 := wf_free v_65
          have tq_100 := mi_row hr_97 4 rfl
          have bv_66 := wf_free v_66
          have tq_101 := mi_row hr_97 5 rfl
          have bv_67 := wf_free v_67
          have tq_102 := mi_row hr_97 14 rfl
          refine py_get (C := RX12) (T := TX12) (N := 54) (k := 3) (v := .int v_65) G0 hw in_X12_term_X12 rfl hr_97 (by decide) (by decide +kernel) rfl dX12_term_35 ?_
          refine lv_iconst (v := 1) G0.1 G0.2.1 dX12_term_38 (by decide) ?_
          refine lv_iadd G0.1 G0.2.1 dX12_term_39 ?_
          refine lv_topi (fun x_103 ex_103 => ?_)
          first | have tx_103 := ti_add ex_103 (by omega -splitDisjunctions) (by omega -splitDisjunctions) | skip
          refine py_put (C := RX12) (T := TX12) (N := 54) (k := 3) (v := .int x_103) (fs' := [.int v_63, .ref (G.2 u 1), .int v_64, .int x_103, .int v_66, .int v_67, .ref (G.2 u 6), .ref (G.2 u 7), .ref (G.2 u 8), .ref (G.2 u 9), .ref (G.2 u 10), .ref (G.2 u 11), .ref (G.2 u 12), .int v_68, .int v_69, .ref (G.2 u 15), .ref (G.2 u 16), .ref (G.2 u 17), .ref (G.2 u 18), .int v_70, .int v_71, .ref (G.2 u 21), .ref (G.2 u 22), .ref (G.2 u 23), .int v_72, .int v_73, .ref (G.2 u 26), .ref (G.2 u 27), .ref (G.2 u 28), .int v_74, .long y_75, .int v_76, .int v_77, .int v_78, .int v_79, .ref (G.2 u 35), .ref (G.2 u 36), .ref (G.2 u 37), .ref (G.2 u 38), .ref (G.2 u 39), .ref (G.2 u 40), .ref (G.2 u 41), .ref (G.2 u 42), .int v_80, .ref (G.2 u 44), .ref (G.2 u 45), .ref (G.2 u 46), .ref (G.2 u 47), .long y_81, .ref (G.2 u 49), .ref (G.2 u 50), .int v_82, .long y_83, .int v_84]) (ty0 := tyX12) G0 hw tyX12_ok nmX12 in_X12_term_X12 rfl hr_97 (by decide) (by decide +kernel) rfl rfl rfl rfl (Nat.le_of_ble_eq_true rfl) rfl dX12_term_40 (fun f_104 H_105 locs h_106 x_107 hw => ?_)
          have hFK := hFK.put hr_97 h_106 3 (by decide) rfl
          have cq_108 := cdv_own (f1 := f_j21) (f2 := f_104) hG hWF Tu x_107 (by have z1 := mi_row hr_97 14 rfl; have z2 := mi_row h_106 14 rfl; omega)
          have hTR := hTR.own hG hWF Tu x_107 (by have z1 := mi_row hr_97 14 rfl; have z2 := mi_row h_106 14 rfl; omega) (by intro q; have z1 := mi_row hr_97 4 rfl; have z2 := mi_row h_106 4 rfl; omega)
          have hKP := hKP.upd hWF x_107 Tu (Or.inl (by decide))
          have hWF := wf_upd hWF h_106 x_107 (by rw [Tu]; exact ⟨v_63, v_64, x_103, v_66, v_67, v_68, v_69, v_70, v_71, v_72, v_73, v_74, y_75, v_76, v_77, v_78, v_79, v_80, y_81, v_82, y_83, v_84, rfl, ⟨by omega, by omega⟩, ⟨by omega, by omega⟩, ⟨by omega, by omega⟩, ⟨by omega, by omega⟩, ⟨by omega, by omega⟩, ⟨by omega, by omega⟩, ⟨by omega, by omega⟩, ⟨by omega, by omega⟩, ⟨by omega, by omega⟩, ⟨by omega, by omega⟩, ⟨by omega, by omega⟩, ⟨by omega, by omega⟩⟩)
          have tq_109 := mi_row h_106 2 rfl
          have tq_110 := mi_row h_106 3 rfl
          have bx_103 := wf_free x_103
          have tq_111 := mi_row h_106 4 rfl
          have bv_66 := wf_free v_66
          have tq_112 := mi_row h_106 5 rfl
          have bv_67 := wf_free v_67
          have tq_113 := mi_row h_106 14 rfl
          refine lv_aload_n G0.1 G0.2.1 dX12_term_43 rfl (lv_at hl 1 rfl) ?_
          refine py_callv hw (va_runV (As := []) (rest := []) G0 (ih_atom L_j21 f_104 H_105.size u hWF Tu (show mi f_104 u 4 = -1 ∧ wb ≤ mi f_104 u 5 ∧ mi f_104 u 5 ≤ 6 ∧ 0 ≤ mi f_104 u 3 ∧ mi f_104 u 3 ≤ mi f_104 u 2 ∧ cdv f_104 G u ≤ mi f_104 u 3 by omega)) (cwV 0 G0.2.2.2.2 g_X12_term_X12_atom_174 rfl rfl rfl (by decide +kernel) ⟨(show f_atom + 1 ≤ fr + 1 by omega), (show 8 + (2 + 11) + l_atom ≤ lo + 60 by omega)⟩) (py_preV hw (C := RX12) (T := TX12) (N := 54) rfl h_106) rfl rfl hl.1 rfl (lv_room (Nat.le_of_ble_eq_true rfl)) dX12_term_44 ⟨(Nat.le_of_ble_eq_true rfl), (Nat.le_of_ble_eq_true rfl)⟩) (fun L_114 f_115 H_116 locs hp_117 hw => ?_)
          obtain ⟨en_119, en_120, en_121, hWF, kp_122, fk_123⟩ := hp_117
          have hFK := hFK.trans fk_123 (by decide)
          have hKP := hKP.trans kp_122 (by decide) (by decide)
          obtain ⟨v_124, v_125, v_126, hr_127⟩ := fk_3_4_5 hWF Tu fk_123 h_106
          have tq_128 := mi_row hr_127 2 rfl
          have tq_129 := mi_row hr_127 3 rfl
          have bv_124 := wf_free v_124
          have tq_130 := mi_row hr_127 4 rfl
          have bv_125 := wf_free v_125
          have tq_131 := mi_row hr_127 5 rfl
          have bv_126 := wf_free v_126
          have tq_132 := mi_row hr_127 14 rfl
          have hTR : TR f f_115 G u (14 - 2 * wb) 0 2 := hTR.trans (en_121.lift (b := 1) (by omega) (by omega) (by omega) (by omega)) (fun q => by omega)
          refine lv_aload_n G0.1 G0.2.1 dX12_term_47 rfl (lv_at hl 1 rfl) ?_
          refine lv_iload_n G0.1 G0.2.1 dX12_term_48 rfl (lv_at hl 0 rfl) ?_
          refine lv_bipush (v := 42) G0.1 G0.2.1 dX12_term_49 (by decide) ?_
          have jn_59 : ∀ (v_133 : Int32) (H_j59 : Heap) (locs : List Loc) (ls : Array Slot), (4 ≤ v_133.toInt ∧ v_133.toInt ≤ 5) → py_W E (va_A (va_pl L f) s.heap.size) s L_114 f_115 H_j59 locs → lv_has ls 2 [(1, .int v_61), (0, .ref u)] → W p l e (headSpec w_X12_term ({ frames := fr + 1, cells := 0, slots := 0, locals := lo + 60 })).room s m ([.ref u] : List Value).toArray below meth c H_j59 locs 0 0 (MQ below (py_Qv E L f s.heap.size (fun L1 f1 => (mi f u 3 ≤ mi f1 u 3 ∧ cdv f1 G u - cdv f G u ≤ mi f1 u 3 - mi f u 3 ∧ mi f1 u 3 ≤ 167 - mi f u 5) ∧ (mi f1 u 4 = -1 → mi f1 u 5 = mi f u 5 ∧ mi f1 u 3 ≤ mi f u 2) ∧ (TR f f1 G u (14 - 2 * wb) 0 1) ∧ WF E G L1 f1 ∧ KP G [41, 42, 43, 13] false f f1 ∧ FK [3, 4, 5] f f1 u)) ([.ref u] : List Value).toArray s 0 0 (va_A (va_pl L f) s.heap.size)) (F0 m 59 ls [.int v_133, .ref u]) := by
            intro v_133 H_j59 locs ls bv_133 hw hl
            refine lv_iconst (v := 0) G0.1 G0.2.1 dX12_term_59 (by decide) ?_
            refine py_callv hw (va_runV (As := [.int v_133, .int 0]) (rest := []) G0 (c_X12_put l E G L_114 f_115 H_j59.size u v_133 0 hG hWF Tu (show cdv f_115 G u ≤ 339 by omega)) (cwV 2 G0.2.2.2.2 g_X12_term_X12_put_156 rfl rfl rfl (by decide +kernel) ⟨(show 0 + 1 ≤ fr + 1 by omega), (show 8 + (3 + 11) + 0 ≤ lo + 60 by omega)⟩) (py_preV hw (C := RX12) (T := TX12) (N := 54) rfl hr_127) rfl rfl hl.1 rfl (lv_room (Nat.le_of_ble_eq_true rfl)) dX12_term_60 ⟨(Nat.le_of_ble_eq_true rfl), (Nat.le_of_ble_eq_true rfl)⟩) (fun L_134 f_135 H_136 locs hp_137 hw => ?_)
            obtain ⟨en_139, en_140, hWF, kp_141, fk_142⟩ := hp_137
            have en_139 : PT f_115 f_135 G u v_133 (0 : Int32) := en_139
            have hFK := hFK.trans fk_142 (by decide)
            have hKP := hKP.trans kp_141 (by decide) (by decide)
            have hr_127 := kp_at kp_141 hWF Tu (by decide) (by decide) (by decide) hr_127
            have tq_143 := mi_row hr_127 2 rfl
            have tq_144 := mi_row hr_127 3 rfl
            have bv_124 := wf_free v_124
            have tq_145 := mi_row hr_127 4 rfl
            have bv_125 := wf_free v_125
            have tq_146 := mi_row hr_127 5 rfl
            have bv_126 := wf_free v_126
            have tq_147 := mi_row hr_127 14 rfl
            have hTR : TR f f_135 G u (14 - 2 * wb) 0 1 := hTR.trans (en_139.tr (by omega)) (fun q => by omega)
            refine lv_aload_n G0.1 G0.2.1 dX12_term_63 rfl (lv_at hl 1 rfl) ?_
            refine py_get (C := RX12) (T := TX12) (N := 54) (k := 4) (v := .int v_125) G0 hw in_X12_term_X12 rfl hr_127 (by decide) (by decide +kernel) rfl dX12_term_64 ?_
            refine lv_iconst (v := (-1)) G0.1 G0.2.1 dX12_term_67 (by decide) ?_
            refine lv_icmp_ne (tgt := 78) G0.1 G0.2.1 dX12_term_68 (by decide) (fun c_148 => ?_) (fun c_148 => ?_)
            · skip
              have tc_148 := ti_ne c_148
              clear en_120
              refine lv_iconst (v := (-1)) G0.1 G0.2.1 dX12_term_78 (by decide) ?_
              refine lv_istore_n (lv' := [(1, .int (-1)), (0, .ref u)]) G0.1 G0.2.1 dX12_term_79 rfl hl (by decide) rfl (fun ls hl => ?_)
              refine lv_goto (tgt := 21) G0.1 G0.2.1 dX12_term_80 (by decide) ?_
              exact ih_21 ((mi f u 2 - mi f_135 u 3).toNat) (by omega) (-1) L_134 f_135 _ _ ls rfl hWF hKP hFK hTR (by first | omega | (intros; omega)) (by first | omega | (intros; omega)) (by first | omega | (intros; omega)) (by first | omega | (intros; omega)) hw (lv_sub hl [0, 1] rfl)
            · skip
              have tc_148 := ti_eq c_148
              replace en_120 := en_120 (by omega)
              refine lv_aload_n G0.1 G0.2.1 dX12_term_71 rfl (lv_at hl 1 rfl) ?_
              refine py_calli hw (va_runV (As := []) (rest := []) G0 (c_X12_look l E G L_134 f_135 H_136.size u hG hWF Tu (show 0 ≤ mi f_135 u 3 ∧ mi f_135 u 3 ≤ mi f_135 u 2 by omega)) (cwV 0 G0.2.2.2.2 g_X12_term_X12_look_146 rfl rfl rfl (by decide +kernel) ⟨(show 1 + 1 ≤ fr + 1 by omega), (show 8 + (1 + 11) + 20 ≤ lo + 60 by omega)⟩) (py_preV hw (C := RX12) (T := TX12) (N := 54) rfl hr_127) rfl rfl hl.1 rfl (lv_room (Nat.le_of_ble_eq_true rfl)) dX12_term_72 ⟨(Nat.le_of_ble_eq_true rfl), (Nat.le_of_ble_eq_true rfl)⟩) (fun r_153 L_149 f_150 H_151 locs hp_152 hw => ?_)
              obtain ⟨en_154, en_155, en_156, hWF, kp_157, fk_158⟩ := hp_152
              have cq_159 := cdv_k hG Tu kp_157 fk_158 (by decide)
              have hFK := hFK.trans fk_158 (by decide)
              have hKP := hKP.trans kp_157 (by decide) (by decide)
              obtain ⟨v_160, hr_161⟩ := fk_3 hWF Tu fk_158 hr_127
              have tq_162 := mi_row hr_161 2 rfl
              have tq_163 := mi_row hr_161 3 rfl
              have bv_160 := wf_free v_160
              have tq_164 := mi_row hr_161 4 rfl
              have bv_125 := wf_free v_125
              have tq_165 := mi_row hr_161 5 rfl
              have bv_126 := wf_free v_126
              have tq_166 := mi_row hr_161 14 rfl
              have hTR := hTR.kp hG Tu kp_157 fk_158 (by decide) (fun q => by omega)
              have br_153 := wf_free r_153
              refine lv_goto (tgt := 79) G0.1 G0.2.1 dX12_term_75 (by decide) ?_
              refine lv_istore_n (lv' := [(1, .int r_153), (0, .ref u)]) G0.1 G0.2.1 dX12_term_79 rfl hl (by decide) rfl (fun ls hl => ?_)
              refine lv_goto (tgt := 21) G0.1 G0.2.1 dX12_term_80 (by decide) ?_
              exact ih_21 ((mi f u 2 - mi f_150 u 3).toNat) (by omega) r_153 L_149 f_150 _ _ ls rfl hWF hKP hFK hTR (by first | omega | (intros; omega)) (by first | omega | (intros; omega)) (by first | omega | (intros; omega)) (by first | omega | (intros; omega)) hw (lv_sub hl [0, 1] rfl)
          refine lv_icmp_ne (tgt := 58) G0.1 G0.2.1 dX12_term_51 (by decide) (fun c_167 => ?_) (fun c_167 => ?_)
          · skip
            have tc_167 := ti_ne c_167
            refine lv_iconst (v := 5) G0.1 G0.2.1 dX12_term_58 (by decide) ?_
            exact jn_59 5 _ _ ls ⟨by omega, by omega⟩ hw (lv_sub hl [0, 1] rfl)
          · skip
            have tc_167 := ti_eq c_167
            refine lv_iconst (v := 4) G0.1 G0.2.1 dX12_term_54 (by decide) ?_
            refine lv_goto (tgt := 59) G0.1 G0.2.1 dX12_term_55 (by decide) ?_
            exact jn_59 4 _ _ ls ⟨by omega, by omega⟩ hw (lv_sub hl [0, 1] rfl)
        · skip
          have tc_62 := ti_ne c_62
          refine lv_iload_n G0.1 G0.2.1 dX12_term_27 rfl (lv_at hl 0 rfl) ?_
          refine lv_bipush (v := 47) G0.1 G0.2.1 dX12_term_28 (by decide) ?_
          refine lv_icmp_ne (tgt := 83) G0.1 G0.2.1 dX12_term_30 (by decide) (fun c_168 => ?_) (fun c_168 => ?_)
          · skip
            have tc_168 := ti_ne c_168
            exact py_vret G0 hr hlk hw ⟨(by first | omega | (intro q; omega)), (by first | omega | (intro q; omega)), hTR, hWF, hKP, hFK⟩ dX12_term_83
          · skip
            have tc_168 := ti_eq c_168
            replace iv2 := iv2 (by omega)
            refine lv_aload_n G0.1 G0.2.1 dX12_term_33 rfl (lv_at hl 1 rfl) ?_
            refine lv_dup G0.1 G0.2.1 dX12_term_34 rfl ?_
            obtain ⟨v_169, v_170, v_171, v_172, v_173, v_174, v_175, v_176, v_177, v_178, v_179, v_180, y_181, v_182, v_183, v_184, v_185, v_186, y_187, v_188, y_189, v_190, hr_203, b_191, b_192, b_193, b_194, b_195, b_196, b_197, b_198, b_199, b_200, b_201, b_202⟩ := wg_12 hWF Tu
            have tq_204 := mi_row hr_203 2 rfl
            have tq_205 := mi_row hr_203 3 rfl
            have bv_171 := wf_free v_171
            have tq_206 := mi_row hr_203 4 rfl
            have bv_172 := wf_free v_172
            have tq_207 := mi_row hr_203 5 rfl
            have bv_173 := wf_free v_173
            have tq_208 := mi_row hr_203 14 rfl
            refine py_get (C := RX12) (T := TX12) (N := 54) (k := 3) (v := .int v_171) G0 hw in_X12_term_X12 rfl hr_203 (by decide) (by decide +kernel) rfl dX12_term_35 ?_
            refine lv_iconst (v := 1) G0.1 G0.2.1 dX12_term_38 (by decide) ?_
            refine lv_iadd G0.1 G0.2.1 dX12_term_39 ?_
            refine lv_topi (fun x_209 ex_209 => ?_)
            first | have tx_209 := ti_add ex_209 (by omega -splitDisjunctions) (by omega -splitDisjunctions) | skip
            refine py_put (C := RX12) (T := TX12) (N := 54) (k := 3) (v := .int x_209) (fs' := [.int v_169, .ref (G.2 u 1), .int v_170, .int x_209, .int v_172, .int v_173, .ref (G.2 u 6), .ref (G.2 u 7), .ref (G.2 u 8), .ref (G.2 u 9), .ref (G.2 u 10), .ref (G.2 u 11), .ref (G.2 u 12), .int v_174, .int v_175, .ref (G.2 u 15), .ref (G.2 u 16), .ref (G.2 u 17), .ref (G.2 u 18), .int v_176, .int v_177, .ref (G.2 u 21), .ref (G.2 u 22), .ref (G.2 u 23), .int v_178, .int v_179, .ref (G.2 u 26), .ref (G.2 u 27), .ref (G.2 u 28), .int v_180, .long y_181, .int v_182, .int v_183, .int v_184, .int v_185, .ref (G.2 u 35), .ref (G.2 u 36), .ref (G.2 u 37), .ref (G.2 u 38), .ref (G.2 u 39), .ref (G.2 u 40), .ref (G.2 u 41), .ref (G.2 u 42), .int v_186, .ref (G.2 u 44), .ref (G.2 u 45), .ref (G.2 u 46), .ref (G.2 u 47), .long y_187, .ref (G.2 u 49), .ref (G.2 u 50), .int v_188, .long y_189, .int v_190]) (ty0 := tyX12) G0 hw tyX12_ok nmX12 in_X12_term_X12 rfl hr_203 (by decide) (by decide +kernel) rfl rfl rfl rfl (Nat.le_of_ble_eq_true rfl) rfl dX12_term_40 (fun f_210 H_211 locs h_212 x_213 hw => ?_)
            have hFK := hFK.put hr_203 h_212 3 (by decide) rfl
            have cq_214 := cdv_own (f1 := f_j21) (f2 := f_210) hG hWF Tu x_213 (by have z1 := mi_row hr_203 14 rfl; have z2 := mi_row h_212 14 rfl; omega)
            have hTR := hTR.own hG hWF Tu x_213 (by have z1 := mi_row hr_203 14 rfl; have z2 := mi_row h_212 14 rfl; omega) (by intro q; have z1 := mi_row hr_203 4 rfl; have z2 := mi_row h_212 4 rfl; omega)
            have hKP := hKP.upd hWF x_213 Tu (Or.inl (by decide))
            have hWF := wf_upd hWF h_212 x_213 (by rw [Tu]; exact ⟨v_169, v_170, x_209, v_172, v_173, v_174, v_175, v_176, v_177, v_178, v_179, v_180, y_181, v_182, v_183, v_184, v_185, v_186, y_187, v_188, y_189, v_190, rfl, ⟨by omega, by omega⟩, ⟨by omega, by omega⟩, ⟨by omega, by omega⟩, ⟨by omega, by omega⟩, ⟨by omega, by omega⟩, ⟨by omega, by omega⟩, ⟨by omega, by omega⟩, ⟨by omega, by omega⟩, ⟨by omega, by omega⟩, ⟨by omega, by omega⟩, ⟨by omega, by omega⟩, ⟨by omega, by omega⟩⟩)
            have tq_215 := mi_row h_212 2 rfl
            have tq_216 := mi_row h_212 3 rfl
            have bx_209 := wf_free x_209
            have tq_217 := mi_row h_212 4 rfl
            have bv_172 := wf_free v_172
            have tq_218 := mi_row h_212 5 rfl
            have bv_173 := wf_free v_173
            have tq_219 := mi_row h_212 14 rfl
            refine lv_aload_n G0.1 G0.2.1 dX12_term_43 rfl (lv_at hl 1 rfl) ?_
            refine py_callv hw (va_runV (As := []) (rest := []) G0 (ih_atom L_j21 f_210 H_211.size u hWF Tu (show mi f_210 u 4 = -1 ∧ wb ≤ mi f_210 u 5 ∧ mi f_210 u 5 ≤ 6 ∧ 0 ≤ mi f_210 u 3 ∧ mi f_210 u 3 ≤ mi f_210 u 2 ∧ cdv f_210 G u ≤ mi f_210 u 3 by omega)) (cwV 0 G0.2.2.2.2 g_X12_term_X12_atom_174 rfl rfl rfl (by decide +kernel) ⟨(show f_atom + 1 ≤ fr + 1 by omega), (show 8 + (2 + 11) + l_atom ≤ lo + 60 by omega)⟩) (py_preV hw (C := RX12) (T := TX12) (N := 54) rfl h_212) rfl rfl hl.1 rfl (lv_room (Nat.le_of_ble_eq_true rfl)) dX12_term_44 ⟨(Nat.le_of_ble_eq_true rfl), (Nat.le_of_ble_eq_true rfl)⟩) (fun L_220 f_221 H_222 locs hp_223 hw => ?_)
            obtain ⟨en_225, en_226, en_227, hWF, kp_228, fk_229⟩ := hp_223
            have hFK := hFK.trans fk_229 (by decide)
            have hKP := hKP.trans kp_228 (by decide) (by decide)
            obtain ⟨v_230, v_231, v_232, hr_233⟩ := fk_3_4_5 hWF Tu fk_229 h_212
            have tq_234 := mi_row hr_233 2 rfl
            have tq_235 := mi_row hr_233 3 rfl
            have bv_230 := wf_free v_230
            have tq_236 := mi_row hr_233 4 rfl
            have bv_231 := wf_free v_231
            have tq_237 := mi_row hr_233 5 rfl
            have bv_232 := wf_free v_232
            have tq_238 := mi_row hr_233 14 rfl
            have hTR : TR f f_221 G u (14 - 2 * wb) 0 2 := hTR.trans (en_227.lift (b := 1) (by omega) (by omega) (by omega) (by omega)) (fun q => by omega)
            refine lv_aload_n G0.1 G0.2.1 dX12_term_47 rfl (lv_at hl 1 rfl) ?_
            refine lv_iload_n G0.1 G0.2.1 dX12_term_48 rfl (lv_at hl 0 rfl) ?_
            refine lv_bipush (v := 42) G0.1 G0.2.1 dX12_term_49 (by decide) ?_
            have jn_59 : ∀ (v_239 : Int32) (H_j59 : Heap) (locs : List Loc) (ls : Array Slot), (4 ≤ v_239.toInt ∧ v_239.toInt ≤ 5) → py_W E (va_A (va_pl L f) s.heap.size) s L_220 f_221 H_j59 locs → lv_has ls 2 [(1, .int v_61), (0, .ref u)] → W p l e (headSpec w_X12_term ({ frames := fr + 1, cells := 0, slots := 0, locals := lo + 60 })).room s m ([.ref u] : List Value).toArray below meth c H_j59 locs 0 0 (MQ below (py_Qv E L f s.heap.size (fun L1 f1 => (mi f u 3 ≤ mi f1 u 3 ∧ cdv f1 G u - cdv f G u ≤ mi f1 u 3 - mi f u 3 ∧ mi f1 u 3 ≤ 167 - mi f u 5) ∧ (mi f1 u 4 = -1 → mi f1 u 5 = mi f u 5 ∧ mi f1 u 3 ≤ mi f u 2) ∧ (TR f f1 G u (14 - 2 * wb) 0 1) ∧ WF E G L1 f1 ∧ KP G [41, 42, 43, 13] false f f1 ∧ FK [3, 4, 5] f f1 u)) ([.ref u] : List Value).toArray s 0 0 (va_A (va_pl L f) s.heap.size)) (F0 m 59 ls [.int v_239, .ref u]) := by
              intro v_239 H_j59 locs ls bv_239 hw hl
              refine lv_iconst (v := 0) G0.1 G0.2.1 dX12_term_59 (by decide) ?_
              refine py_callv hw (va_runV (As := [.int v_239, .int 0]) (rest := []) G0 (c_X12_put l E G L_220 f_221 H_j59.size u v_239 0 hG hWF Tu (show cdv f_221 G u ≤ 339 by omega)) (cwV 2 G0.2.2.2.2 g_X12_term_X12_put_156 rfl rfl rfl (by decide +kernel) ⟨(show 0 + 1 ≤ fr + 1 by omega), (show 8 + (3 + 11) + 0 ≤ lo + 60 by omega)⟩) (py_preV hw (C := RX12) (T := TX12) (N := 54) rfl hr_233) rfl rfl hl.1 rfl (lv_room (Nat.le_of_ble_eq_true rfl)) dX12_term_60 ⟨(Nat.le_of_ble_eq_true rfl), (Nat.le_of_ble_eq_true rfl)⟩) (fun L_240 f_241 H_242 locs hp_243 hw => ?_)
              obtain ⟨en_245, en_246, hWF, kp_247, fk_248⟩ := hp_243
              have en_245 : PT f_221 f_241 G u v_239 (0 : Int32) := en_245
              have hFK := hFK.trans fk_248 (by decide)
              have hKP := hKP.trans kp_247 (by decide) (by decide)
              have hr_233 := kp_at kp_247 hWF Tu (by decide) (by decide) (by decide) hr_233
              have tq_249 := mi_row hr_233 2 rfl
              have tq_250 := mi_row hr_233 3 rfl
              have bv_230 := wf_free v_230
              have tq_251 := mi_row hr_233 4 rfl
              have bv_231 := wf_free v_231
              have tq_252 := mi_row hr_233 5 rfl
              have bv_232 := wf_free v_232
              have tq_253 := mi_row hr_233 14 rfl
              have hTR : TR f f_241 G u (14 - 2 * wb) 0 1 := hTR.trans (en_245.tr (by omega)) (fun q => by omega)
              refine lv_aload_n G0.1 G0.2.1 dX12_term_63 rfl (lv_at hl 1 rfl) ?_
              refine py_get (C := RX12) (T := TX12) (N := 54) (k := 4) (v := .int v_231) G0 hw in_X12_term_X12 rfl hr_233 (by decide) (by decide +kernel) rfl dX12_term_64 ?_
              refine lv_iconst (v := (-1)) G0.1 G0.2.1 dX12_term_67 (by decide) ?_
              refine lv_icmp_ne (tgt := 78) G0.1 G0.2.1 dX12_term_68 (by decide) (fun c_254 => ?_) (fun c_254 => ?_)
              · skip
                have tc_254 := ti_ne c_254
                clear en_226
                refine lv_iconst (v := (-1)) G0.1 G0.2.1 dX12_term_78 (by decide) ?_
                refine lv_istore_n (lv' := [(1, .int (-1)), (0, .ref u)]) G0.1 G0.2.1 dX12_term_79 rfl hl (by decide) rfl (fun ls hl => ?_)
                refine lv_goto (tgt := 21) G0.1 G0.2.1 dX12_term_80 (by decide) ?_
                exact ih_21 ((mi f u 2 - mi f_241 u 3).toNat) (by omega) (-1) L_240 f_241 _ _ ls rfl hWF hKP hFK hTR (by first | omega | (intros; omega)) (by first | omega | (intros; omega)) (by first | omega | (intros; omega)) (by first | omega | (intros; omega)) hw (lv_sub hl [0, 1] rfl)
              · skip
                have tc_254 := ti_eq c_254
                replace en_226 := en_226 (by omega)
                refine lv_aload_n G0.1 G0.2.1 dX12_term_71 rfl (lv_at hl 1 rfl) ?_
                refine py_calli hw (va_runV (As := []) (rest := []) G0 (c_X12_look l E G L_240 f_241 H_242.size u hG hWF Tu (show 0 ≤ mi f_241 u 3 ∧ mi f_241 u 3 ≤ mi f_241 u 2 by omega)) (cwV 0 G0.2.2.2.2 g_X12_term_X12_look_146 rfl rfl rfl (by decide +kernel) ⟨(show 1 + 1 ≤ fr + 1 by omega), (show 8 + (1 + 11) + 20 ≤ lo + 60 by omega)⟩) (py_preV hw (C := RX12) (T := TX12) (N := 54) rfl hr_233) rfl rfl hl.1 rfl (lv_room (Nat.le_of_ble_eq_true rfl)) dX12_term_72 ⟨(Nat.le_of_ble_eq_true rfl), (Nat.le_of_ble_eq_true rfl)⟩) (fun r_259 L_255 f_256 H_257 locs hp_258 hw => ?_)
                obtain ⟨en_260, en_261, en_262, hWF, kp_263, fk_264⟩ := hp_258
                have cq_265 := cdv_k hG Tu kp_263 fk_264 (by decide)
                have hFK := hFK.trans fk_264 (by decide)
                have hKP := hKP.trans kp_263 (by decide) (by decide)
                obtain ⟨v_266, hr_267⟩ := fk_3 hWF Tu fk_264 hr_233
                have tq_268 := mi_row hr_267 2 rfl
                have tq_269 := mi_row hr_267 3 rfl
                have bv_266 := wf_free v_266
                have tq_270 := mi_row hr_267 4 rfl
                have bv_231 := wf_free v_231
                have tq_271 := mi_row hr_267 5 rfl
                have bv_232 := wf_free v_232
                have tq_272 := mi_row hr_267 14 rfl
                have hTR := hTR.kp hG Tu kp_263 fk_264 (by decide) (fun q => by omega)
                have br_259 := wf_free r_259
                refine lv_goto (tgt := 79) G0.1 G0.2.1 dX12_term_75 (by decide) ?_
                refine lv_istore_n (lv' := [(1, .int r_259), (0, .ref u)]) G0.1 G0.2.1 dX12_term_79 rfl hl (by decide) rfl (fun ls hl => ?_)
                refine lv_goto (tgt := 21) G0.1 G0.2.1 dX12_term_80 (by decide) ?_
                exact ih_21 ((mi f u 2 - mi f_256 u 3).toNat) (by omega) r_259 L_255 f_256 _ _ ls rfl hWF hKP hFK hTR (by first | omega | (intros; omega)) (by first | omega | (intros; omega)) (by first | omega | (intros; omega)) (by first | omega | (intros; omega)) hw (lv_sub hl [0, 1] rfl)
            refine lv_icmp_ne (tgt := 58) G0.1 G0.2.1 dX12_term_51 (by decide) (fun c_273 => ?_) (fun c_273 => ?_)
            · skip
              have tc_273 := ti_ne c_273
              refine lv_iconst (v := 5) G0.1 G0.2.1 dX12_term_58 (by decide) ?_
              exact jn_59 5 _ _ ls ⟨by omega, by omega⟩ hw (lv_sub hl [0, 1] rfl)
            · skip
              have tc_273 := ti_eq c_273
              refine lv_iconst (v := 4) G0.1 G0.2.1 dX12_term_54 (by decide) ?_
              refine lv_goto (tgt := 59) G0.1 G0.2.1 dX12_term_55 (by decide) ?_
              exact jn_59 4 _ _ ls ⟨by omega, by omega⟩ hw (lv_sub hl [0, 1] rfl)
    exact lo_21 _ (-1) L_41 f_42 _ _ ls rfl hWF hKP hFK hTR (by first | omega | (intros; omega)) (by first | omega | (intros; omega)) (by first | omega | (intros; omega)) (by first | omega | (intros; omega)) hw (lv_sub hl [0, 1] rfl)
  · skip
    have tc_60 := ti_eq c_60
    replace en_47 := en_47 (by omega)
    refine lv_aload_n G0.1 G0.2.1 dX12_term_12 rfl (lv_at hl 0 rfl) ?_
    refine py_calli hw (va_runV (As := []) (rest := []) G0 (c_X12_look l E G L_41 f_42 H_43.size u hG hWF Tu (show 0 ≤ mi f_42 u 3 ∧ mi f_42 u 3 ≤ mi f_42 u 2 by omega)) (cwV 0 G0.2.2.2.2 g_X12_term_X12_look_146 rfl rfl rfl (by decide +kernel) ⟨(show 1 + 1 ≤ fr + 1 by omega), (show 8 + (1 + 11) + 20 ≤ lo + 60 by omega)⟩) (py_preV hw (C := RX12) (T := TX12) (N := 54) rfl hr_54) rfl rfl hl.1 rfl (lv_room (Nat.le_of_ble_eq_true rfl)) dX12_term_13 ⟨(Nat.le_of_ble_eq_true rfl), (Nat.le_of_ble_eq_true rfl)⟩) (fun r_278 L_274 f_275 H_276 locs hp_277 hw => ?_)
    obtain ⟨en_279, en_280, en_281, hWF, kp_282, fk_283⟩ := hp_277
    have cq_284 := cdv_k hG Tu kp_282 fk_283 (by decide)
    have hFK := hFK.trans fk_283 (by decide)
    have hKP := hKP.trans kp_282 (by decide) (by decide)
    obtain ⟨v_285, hr_286⟩ := fk_3 hWF Tu fk_283 hr_54
    have tq_287 := mi_row hr_286 2 rfl
    have tq_288 := mi_row hr_286 3 rfl
    have bv_285 := wf_free v_285
    have tq_289 := mi_row hr_286 4 rfl
    have bv_52 := wf_free v_52
    have tq_290 := mi_row hr_286 5 rfl
    have bv_53 := wf_free v_53
    have tq_291 := mi_row hr_286 14 rfl
    have hTR := hTR.kp hG Tu kp_282 fk_283 (by decide) (fun q => by omega)
    have br_278 := wf_free r_278
    refine lv_goto (tgt := 20) G0.1 G0.2.1 dX12_term_16 (by decide) ?_
    refine lv_istore_n (lv' := [(1, .int r_278), (0, .ref u)]) G0.1 G0.2.1 dX12_term_20 rfl hl (by decide) rfl (fun ls hl => ?_)
    have lo_21 : ∀ n_21 : Nat, ∀ (v_292 : Int32) (L_j21 : List Nat) (f_j21 : py_F) (H_j21 : Heap) (locs : List Loc) (ls : Array Slot), (mi f u 2 - mi f_j21 u 3).toNat = n_21 → WF E G L_j21 f_j21 → KP G [41, 42, 43, 13] false f f_j21 → FK [3, 4, 5] f f_j21 u → TR f f_j21 G u (14 - 2 * wb) 0 1 → (mi f u 3 ≤ mi f_j21 u 3 ∧ cdv f_j21 G u - cdv f G u ≤ mi f_j21 u 3 - mi f u 3 ∧ mi f_j21 u 3 ≤ 167 - mi f u 5) → (mi f_j21 u 4 = -1 → mi f_j21 u 5 = mi f u 5 ∧ mi f_j21 u 3 ≤ mi f u 2) → (v_292.toInt ≠ -1 → mi f_j21 u 4 = -1 ∧ mi f_j21 u 3 < mi f u 2) → (mi f_j21 u 2 = mi f u 2) → py_W E (va_A (va_pl L f) s.heap.size) s L_j21 f_j21 H_j21 locs → lv_has ls 2 [(1, .int v_292), (0, .ref u)] → W p l e (headSpec w_X12_term ({ frames := fr + 1, cells := 0, slots := 0, locals := lo + 60 })).room s m ([.ref u] : List Value).toArray below meth c H_j21 locs 0 0 (MQ below (py_Qv E L f s.heap.size (fun L1 f1 => (mi f u 3 ≤ mi f1 u 3 ∧ cdv f1 G u - cdv f G u ≤ mi f1 u 3 - mi f u 3 ∧ mi f1 u 3 ≤ 167 - mi f u 5) ∧ (mi f1 u 4 = -1 → mi f1 u 5 = mi f u 5 ∧ mi f1 u 3 ≤ mi f u 2) ∧ (TR f f1 G u (14 - 2 * wb) 0 1) ∧ WF E G L1 f1 ∧ KP G [41, 42, 43, 13] false f f1 ∧ FK [3, 4, 5] f f1 u)) ([.ref u] : List Value).toArray s 0 0 (va_A (va_pl L f) s.heap.size)) (F0 m 21 ls []) := by
      intro n_21
      induction n_21 using Nat.strongRecOn with
      | _ n_21 ih_21 =>
        intro v_292 L_j21 f_j21 H_j21 locs ls hn_21 hWF hKP hFK hTR iv0 iv1 iv2 iv3 hw hl
        refine lv_iload_n G0.1 G0.2.1 dX12_term_21 rfl (lv_at hl 0 rfl) ?_
        refine lv_bipush (v := 42) G0.1 G0.2.1 dX12_term_22 (by decide) ?_
        refine lv_icmp_eq (tgt := 33) G0.1 G0.2.1 dX12_term_24 (by decide) (fun c_293 => ?_) (fun c_293 => ?_)
        · skip
          have tc_293 := ti_eq c_293
          replace iv2 := iv2 (by omega)
          refine lv_aload_n G0.1 G0.2.1 dX12_term_33 rfl (lv_at hl 1 rfl) ?_
          refine lv_dup G0.1 G0.2.1 dX12_term_34 rfl ?_
          obtain ⟨v_294, v_295, v_296, v_297, v_298, v_299, v_300, v_301, v_302, v_303, v_304, v_305, y_306, v_307, v_308, v_309, v_310, v_311, y_312, v_313, y_314, v_315, hr_328, b_316, b_317, b_318, b_319, b_320, b_321, b_322, b_323, b_324, b_325, b_326, b_327⟩ := wg_12 hWF Tu
          have tq_329 := mi_row hr_328 2 rfl
          have tq_330 := mi_row hr_328 3 rfl
          have bv_296 := wf_free v_296
          have tq_331 := mi_row hr_328 4 rfl
          have bv_297 := wf_free v_297
          have tq_332 := mi_row hr_328 5 rfl
          have bv_298 := wf_free v_298
          have tq_333 := mi_row hr_328 14 rfl
          refine py_get (C := RX12) (T := TX12) (N := 54) (k := 3) (v := .int v_296) G0 hw in_X12_term_X12 rfl hr_328 (by decide) (by decide +kernel) rfl dX12_term_35 ?_
          refine lv_iconst (v := 1) G0.1 G0.2.1 dX12_term_38 (by decide) ?_
          refine lv_iadd G0.1 G0.2.1 dX12_term_39 ?_
          refine lv_topi (fun x_334 ex_334 => ?_)
          first | have tx_334 := ti_add ex_334 (by omega -splitDisjunctions) (by omega -splitDisjunctions) | skip
          refine py_put (C := RX12) (T := TX12) (N := 54) (k := 3) (v := .int x_334) (fs' := [.int v_294, .ref (G.2 u 1), .int v_295, .int x_334, .int v_297, .int v_298, .ref (G.2 u 6), .ref (G.2 u 7), .ref (G.2 u 8), .ref (G.2 u 9), .ref (G.2 u 10), .ref (G.2 u 11), .ref (G.2 u 12), .int v_299, .int v_300, .ref (G.2 u 15), .ref (G.2 u 16), .ref (G.2 u 17), .ref (G.2 u 18), .int v_301, .int v_302, .ref (G.2 u 21), .ref (G.2 u 22), .ref (G.2 u 23), .int v_303, .int v_304, .ref (G.2 u 26), .ref (G.2 u 27), .ref (G.2 u 28), .int v_305, .long y_306, .int v_307, .int v_308, .int v_309, .int v_310, .ref (G.2 u 35), .ref (G.2 u 36), .ref (G.2 u 37), .ref (G.2 u 38), .ref (G.2 u 39), .ref (G.2 u 40), .ref (G.2 u 41), .ref (G.2 u 42), .int v_311, .ref (G.2 u 44), .ref (G.2 u 45), .ref (G.2 u 46), .ref (G.2 u 47), .long y_312, .ref (G.2 u 49), .ref (G.2 u 50), .int v_313, .long y_314, .int v_315]) (ty0 := tyX12) G0 hw tyX12_ok nmX12 in_X12_term_X12 rfl hr_328 (by decide) (by decide +kernel) rfl rfl rfl rfl (Nat.le_of_ble_eq_true rfl) rfl dX12_term_40 (fun f_335 H_336 locs h_337 x_338 hw => ?_)
          have hFK := hFK.put hr_328 h_337 3 (by decide) rfl
          have cq_339 := cdv_own (f1 := f_j21) (f2 := f_335) hG hWF Tu x_338 (by have z1 := mi_row hr_328 14 rfl; have z2 := mi_row h_337 14 rfl; omega)
          have hTR := hTR.own hG hWF Tu x_338 (by have z1 := mi_row hr_328 14 rfl; have z2 := mi_row h_337 14 rfl; omega) (by intro q; have z1 := mi_row hr_328 4 rfl; have z2 := mi_row h_337 4 rfl; omega)
          have hKP := hKP.upd hWF x_338 Tu (Or.inl (by decide))
          have hWF := wf_upd hWF h_337 x_338 (by rw [Tu]; exact ⟨v_294, v_295, x_334, v_297, v_298, v_299, v_300, v_301, v_302, v_303, v_304, v_305, y_306, v_307, v_308, v_309, v_310, v_311, y_312, v_313, y_314, v_315, rfl, ⟨by omega, by omega⟩, ⟨by omega, by omega⟩, ⟨by omega, by omega⟩, ⟨by omega, by omega⟩, ⟨by omega, by omega⟩, ⟨by omega, by omega⟩, ⟨by omega, by omega⟩, ⟨by omega, by omega⟩, ⟨by omega, by omega⟩, ⟨by omega, by omega⟩, ⟨by omega, by omega⟩, ⟨by omega, by omega⟩⟩)
          have tq_340 := mi_row h_337 2 rfl
          have tq_341 := mi_row h_337 3 rfl
          have bx_334 := wf_free x_334
          have tq_342 := mi_row h_337 4 rfl
          have bv_297 := wf_free v_297
          have tq_343 := mi_row h_337 5 rfl
          have bv_298 := wf_free v_298
          have tq_344 := mi_row h_337 14 rfl
          refine lv_aload_n G0.1 G0.2.1 dX12_term_43 rfl (lv_at hl 1 rfl) ?_
          refine py_callv hw (va_runV (As := []) (rest := []) G0 (ih_atom L_j21 f_335 H_336.size u hWF Tu (show mi f_335 u 4 = -1 ∧ wb ≤ mi f_335 u 5 ∧ mi f_335 u 5 ≤ 6 ∧ 0 ≤ mi f_335 u 3 ∧ mi f_335 u 3 ≤ mi f_335 u 2 ∧ cdv f_335 G u ≤ mi f_335 u 3 by omega)) (cwV 0 G0.2.2.2.2 g_X12_term_X12_atom_174 rfl rfl rfl (by decide +kernel) ⟨(show f_atom + 1 ≤ fr + 1 by omega), (show 8 + (2 + 11) + l_atom ≤ lo + 60 by omega)⟩) (py_preV hw (C := RX12) (T := TX12) (N := 54) rfl h_337) rfl rfl hl.1 rfl (lv_room (Nat.le_of_ble_eq_true rfl)) dX12_term_44 ⟨(Nat.le_of_ble_eq_true rfl), (Nat.le_of_ble_eq_true rfl)⟩) (fun L_345 f_346 H_347 locs hp_348 hw => ?_)
          obtain ⟨en_350, en_351, en_352, hWF, kp_353, fk_354⟩ := hp_348
          have hFK := hFK.trans fk_354 (by decide)
          have hKP := hKP.trans kp_353 (by decide) (by decide)
          obtain ⟨v_355, v_356, v_357, hr_358⟩ := fk_3_4_5 hWF Tu fk_354 h_337
          have tq_359 := mi_row hr_358 2 rfl
          have tq_360 := mi_row hr_358 3 rfl
          have bv_355 := wf_free v_355
          have tq_361 := mi_row hr_358 4 rfl
          have bv_356 := wf_free v_356
          have tq_362 := mi_row hr_358 5 rfl
          have bv_357 := wf_free v_357
          have tq_363 := mi_row hr_358 14 rfl
          have hTR : TR f f_346 G u (14 - 2 * wb) 0 2 := hTR.trans (en_352.lift (b := 1) (by omega) (by omega) (by omega) (by omega)) (fun q => by omega)
          refine lv_aload_n G0.1 G0.2.1 dX12_term_47 rfl (lv_at hl 1 rfl) ?_
          refine lv_iload_n G0.1 G0.2.1 dX12_term_48 rfl (lv_at hl 0 rfl) ?_
          refine lv_bipush (v := 42) G0.1 G0.2.1 dX12_term_49 (by decide) ?_
          have jn_59 : ∀ (v_364 : Int32) (H_j59 : Heap) (locs : List Loc) (ls : Array Slot), (4 ≤ v_364.toInt ∧ v_364.toInt ≤ 5) → py_W E (va_A (va_pl L f) s.heap.size) s L_345 f_346 H_j59 locs → lv_has ls 2 [(1, .int v_292), (0, .ref u)] → W p l e (headSpec w_X12_term ({ frames := fr + 1, cells := 0, slots := 0, locals := lo + 60 })).room s m ([.ref u] : List Value).toArray below meth c H_j59 locs 0 0 (MQ below (py_Qv E L f s.heap.size (fun L1 f1 => (mi f u 3 ≤ mi f1 u 3 ∧ cdv f1 G u - cdv f G u ≤ mi f1 u 3 - mi f u 3 ∧ mi f1 u 3 ≤ 167 - mi f u 5) ∧ (mi f1 u 4 = -1 → mi f1 u 5 = mi f u 5 ∧ mi f1 u 3 ≤ mi f u 2) ∧ (TR f f1 G u (14 - 2 * wb) 0 1) ∧ WF E G L1 f1 ∧ KP G [41, 42, 43, 13] false f f1 ∧ FK [3, 4, 5] f f1 u)) ([.ref u] : List Value).toArray s 0 0 (va_A (va_pl L f) s.heap.size)) (F0 m 59 ls [.int v_364, .ref u]) := by
            intro v_364 H_j59 locs ls bv_364 hw hl
            refine lv_iconst (v := 0) G0.1 G0.2.1 dX12_term_59 (by decide) ?_
            refine py_callv hw (va_runV (As := [.int v_364, .int 0]) (rest := []) G0 (c_X12_put l E G L_345 f_346 H_j59.size u v_364 0 hG hWF Tu (show cdv f_346 G u ≤ 339 by omega)) (cwV 2 G0.2.2.2.2 g_X12_term_X12_put_156 rfl rfl rfl (by decide +kernel) ⟨(show 0 + 1 ≤ fr + 1 by omega), (show 8 + (3 + 11) + 0 ≤ lo + 60 by omega)⟩) (py_preV hw (C := RX12) (T := TX12) (N := 54) rfl hr_358) rfl rfl hl.1 rfl (lv_room (Nat.le_of_ble_eq_true rfl)) dX12_term_60 ⟨(Nat.le_of_ble_eq_true rfl), (Nat.le_of_ble_eq_true rfl)⟩) (fun L_365 f_366 H_367 locs hp_368 hw => ?_)
            obtain ⟨en_370, en_371, hWF, kp_372, fk_373⟩ := hp_368
            have en_370 : PT f_346 f_366 G u v_364 (0 : Int32) := en_370
            have hFK := hFK.trans fk_373 (by decide)
            have hKP := hKP.trans kp_372 (by decide) (by decide)
            have hr_358 := kp_at kp_372 hWF Tu (by decide) (by decide) (by decide) hr_358
            have tq_374 := mi_row hr_358 2 rfl
            have tq_375 := mi_row hr_358 3 rfl
            have bv_355 := wf_free v_355
            have tq_376 := mi_row hr_358 4 rfl
            have bv_356 := wf_free v_356
            have tq_377 := mi_row hr_358 5 rfl
            have bv_357 := wf_free v_357
            have tq_378 := mi_row hr_358 14 rfl
            have hTR : TR f f_366 G u (14 - 2 * wb) 0 1 := hTR.trans (en_370.tr (by omega)) (fun q => by omega)
            refine lv_aload_n G0.1 G0.2.1 dX12_term_63 rfl (lv_at hl 1 rfl) ?_
            refine py_get (C := RX12) (T := TX12) (N := 54) (k := 4) (v := .int v_356) G0 hw in_X12_term_X12 rfl hr_358 (by decide) (by decide +kernel) rfl dX12_term_64 ?_
            refine lv_iconst (v := (-1)) G0.1 G0.2.1 dX12_term_67 (by decide) ?_
            refine lv_icmp_ne (tgt := 78) G0.1 G0.2.1 dX12_term_68 (by decide) (fun c_379 => ?_) (fun c_379 => ?_)
            · skip
              have tc_379 := ti_ne c_379
              clear en_351
              refine lv_iconst (v := (-1)) G0.1 G0.2.1 dX12_term_78 (by decide) ?_
              refine lv_istore_n (lv' := [(1, .int (-1)), (0, .ref u)]) G0.1 G0.2.1 dX12_term_79 rfl hl (by decide) rfl (fun ls hl => ?_)
              refine lv_goto (tgt := 21) G0.1 G0.2.1 dX12_term_80 (by decide) ?_
              exact ih_21 ((mi f u 2 - mi f_366 u 3).toNat) (by omega) (-1) L_365 f_366 _ _ ls rfl hWF hKP hFK hTR (by first | omega | (intros; omega)) (by first | omega | (intros; omega)) (by first | omega | (intros; omega)) (by first | omega | (intros; omega)) hw (lv_sub hl [0, 1] rfl)
            · skip
              have tc_379 := ti_eq c_379
              replace en_351 := en_351 (by omega)
              refine lv_aload_n G0.1 G0.2.1 dX12_term_71 rfl (lv_at hl 1 rfl) ?_
              refine py_calli hw (va_runV (As := []) (rest := []) G0 (c_X12_look l E G L_365 f_366 H_367.size u hG hWF Tu (show 0 ≤ mi f_366 u 3 ∧ mi f_366 u 3 ≤ mi f_366 u 2 by omega)) (cwV 0 G0.2.2.2.2 g_X12_term_X12_look_146 rfl rfl rfl (by decide +kernel) ⟨(show 1 + 1 ≤ fr + 1 by omega), (show 8 + (1 + 11) + 20 ≤ lo + 60 by omega)⟩) (py_preV hw (C := RX12) (T := TX12) (N := 54) rfl hr_358) rfl rfl hl.1 rfl (lv_room (Nat.le_of_ble_eq_true rfl)) dX12_term_72 ⟨(Nat.le_of_ble_eq_true rfl), (Nat.le_of_ble_eq_true rfl)⟩) (fun r_384 L_380 f_381 H_382 locs hp_383 hw => ?_)
              obtain ⟨en_385, en_386, en_387, hWF, kp_388, fk_389⟩ := hp_383
              have cq_390 := cdv_k hG Tu kp_388 fk_389 (by decide)
              have hFK := hFK.trans fk_389 (by decide)
              have hKP := hKP.trans kp_388 (by decide) (by decide)
              obtain ⟨v_391, hr_392⟩ := fk_3 hWF Tu fk_389 hr_358
              have tq_393 := mi_row hr_392 2 rfl
              have tq_394 := mi_row hr_392 3 rfl
              have bv_391 := wf_free v_391
              have tq_395 := mi_row hr_392 4 rfl
              have bv_356 := wf_free v_356
              have tq_396 := mi_row hr_392 5 rfl
              have bv_357 := wf_free v_357
              have tq_397 := mi_row hr_392 14 rfl
              have hTR := hTR.kp hG Tu kp_388 fk_389 (by decide) (fun q => by omega)
              have br_384 := wf_free r_384
              refine lv_goto (tgt := 79) G0.1 G0.2.1 dX12_term_75 (by decide) ?_
              refine lv_istore_n (lv' := [(1, .int r_384), (0, .ref u)]) G0.1 G0.2.1 dX12_term_79 rfl hl (by decide) rfl (fun ls hl => ?_)
              refine lv_goto (tgt := 21) G0.1 G0.2.1 dX12_term_80 (by decide) ?_
              exact ih_21 ((mi f u 2 - mi f_381 u 3).toNat) (by omega) r_384 L_380 f_381 _ _ ls rfl hWF hKP hFK hTR (by first | omega | (intros; omega)) (by first | omega | (intros; omega)) (by first | omega | (intros; omega)) (by first | omega | (intros; omega)) hw (lv_sub hl [0, 1] rfl)
          refine lv_icmp_ne (tgt := 58) G0.1 G0.2.1 dX12_term_51 (by decide) (fun c_398 => ?_) (fun c_398 => ?_)
          · skip
            have tc_398 := ti_ne c_398
            refine lv_iconst (v := 5) G0.1 G0.2.1 dX12_term_58 (by decide) ?_
            exact jn_59 5 _ _ ls ⟨by omega, by omega⟩ hw (lv_sub hl [0, 1] rfl)
          · skip
            have tc_398 := ti_eq c_398
            refine lv_iconst (v := 4) G0.1 G0.2.1 dX12_term_54 (by decide) ?_
            refine lv_goto (tgt := 59) G0.1 G0.2.1 dX12_term_55 (by decide) ?_
            exact jn_59 4 _ _ ls ⟨by omega, by omega⟩ hw (lv_sub hl [0, 1] rfl)
        · skip
          have tc_293 := ti_ne c_293
          refine lv_iload_n G0.1 G0.2.1 dX12_term_27 rfl (lv_at hl 0 rfl) ?_
          refine lv_bipush (v := 47) G0.1 G0.2.1 dX12_term_28 (by decide) ?_
          refine lv_icmp_ne (tgt := 83) G0.1 G0.2.1 dX12_term_30 (by decide) (fun c_399 => ?_) (fun c_399 => ?_)
          · skip
            have tc_399 := ti_ne c_399
            exact py_vret G0 hr hlk hw ⟨(by first | omega | (intro q; omega)), (by first | omega | (intro q; omega)), hTR, hWF, hKP, hFK⟩ dX12_term_83
          · skip
            have tc_399 := ti_eq c_399
            replace iv2 := iv2 (by omega)
            refine lv_aload_n G0.1 G0.2.1 dX12_term_33 rfl (lv_at hl 1 rfl) ?_
            refine lv_dup G0.1 G0.2.1 dX12_term_34 rfl ?_
            obtain ⟨v_400, v_401, v_402, v_403, v_404, v_405, v_406, v_407, v_408, v_409, v_410, v_411, y_412, v_413, v_414, v_415, v_416, v_417, y_418, v_419, y_420, v_421, hr_434, b_422, b_423, b_424, b_425, b_426, b_427, b_428, b_429, b_430, b_431, b_432, b_433⟩ := wg_12 hWF Tu
            have tq_435 := mi_row hr_434 2 rfl
            have tq_436 := mi_row hr_434 3 rfl
            have bv_402 := wf_free v_402
            have tq_437 := mi_row hr_434 4 rfl
            have bv_403 := wf_free v_403
            have tq_438 := mi_row hr_434 5 rfl
            have bv_404 := wf_free v_404
            have tq_439 := mi_row hr_434 14 rfl
            refine py_get (C := RX12) (T := TX12) (N := 54) (k := 3) (v := .int v_402) G0 hw in_X12_term_X12 rfl hr_434 (by decide) (by decide +kernel) rfl dX12_term_35 ?_
            refine lv_iconst (v := 1) G0.1 G0.2.1 dX12_term_38 (by decide) ?_
            refine lv_iadd G0.1 G0.2.1 dX12_term_39 ?_
            refine lv_topi (fun x_440 ex_440 => ?_)
            first | have tx_440 := ti_add ex_440 (by omega -splitDisjunctions) (by omega -splitDisjunctions) | skip
            refine py_put (C := RX12) (T := TX12) (N := 54) (k := 3) (v := .int x_440) (fs' := [.int v_400, .ref (G.2 u 1), .int v_401, .int x_440, .int v_403, .int v_404, .ref (G.2 u 6), .ref (G.2 u 7), .ref (G.2 u 8), .ref (G.2 u 9), .ref (G.2 u 10), .ref (G.2 u 11), .ref (G.2 u 12), .int v_405, .int v_406, .ref (G.2 u 15), .ref (G.2 u 16), .ref (G.2 u 17), .ref (G.2 u 18), .int v_407, .int v_408, .ref (G.2 u 21), .ref (G.2 u 22), .ref (G.2 u 23), .int v_409, .int v_410, .ref (G.2 u 26), .ref (G.2 u 27), .ref (G.2 u 28), .int v_411, .long y_412, .int v_413, .int v_414, .int v_415, .int v_416, .ref (G.2 u 35), .ref (G.2 u 36), .ref (G.2 u 37), .ref (G.2 u 38), .ref (G.2 u 39), .ref (G.2 u 40), .ref (G.2 u 41), .ref (G.2 u 42), .int v_417, .ref (G.2 u 44), .ref (G.2 u 45), .ref (G.2 u 46), .ref (G.2 u 47), .long y_418, .ref (G.2 u 49), .ref (G.2 u 50), .int v_419, .long y_420, .int v_421]) (ty0 := tyX12) G0 hw tyX12_ok nmX12 in_X12_term_X12 rfl hr_434 (by decide) (by decide +kernel) rfl rfl rfl rfl (Nat.le_of_ble_eq_true rfl) rfl dX12_term_40 (fun f_441 H_442 locs h_443 x_444 hw => ?_)
            have hFK := hFK.put hr_434 h_443 3 (by decide) rfl
            have cq_445 := cdv_own (f1 := f_j21) (f2 := f_441) hG hWF Tu x_444 (by have z1 := mi_row hr_434 14 rfl; have z2 := mi_row h_443 14 rfl; omega)
            have hTR := hTR.own hG hWF Tu x_444 (by have z1 := mi_row hr_434 14 rfl; have z2 := mi_row h_443 14 rfl; omega) (by intro q; have z1 := mi_row hr_434 4 rfl; have z2 := mi_row h_443 4 rfl; omega)
            have hKP := hKP.upd hWF x_444 Tu (Or.inl (by decide))
            have hWF := wf_upd hWF h_443 x_444 (by rw [Tu]; exact ⟨v_400, v_401, x_440, v_403, v_404, v_405, v_406, v_407, v_408, v_409, v_410, v_411, y_412, v_413, v_414, v_415, v_416, v_417, y_418, v_419, y_420, v_421, rfl, ⟨by omega, by omega⟩, ⟨by omega, by omega⟩, ⟨by omega, by omega⟩, ⟨by omega, by omega⟩, ⟨by omega, by omega⟩, ⟨by omega, by omega⟩, ⟨by omega, by omega⟩, ⟨by omega, by omega⟩, ⟨by omega, by omega⟩, ⟨by omega, by omega⟩, ⟨by omega, by omega⟩, ⟨by omega, by omega⟩⟩)
            have tq_446 := mi_row h_443 2 rfl
            have tq_447 := mi_row h_443 3 rfl
            have bx_440 := wf_free x_440
            have tq_448 := mi_row h_443 4 rfl
            have bv_403 := wf_free v_403
            have tq_449 := mi_row h_443 5 rfl
            have bv_404 := wf_free v_404
            have tq_450 := mi_row h_443 14 rfl
            refine lv_aload_n G0.1 G0.2.1 dX12_term_43 rfl (lv_at hl 1 rfl) ?_
            refine py_callv hw (va_runV (As := []) (rest := []) G0 (ih_atom L_j21 f_441 H_442.size u hWF Tu (show mi f_441 u 4 = -1 ∧ wb ≤ mi f_441 u 5 ∧ mi f_441 u 5 ≤ 6 ∧ 0 ≤ mi f_441 u 3 ∧ mi f_441 u 3 ≤ mi f_441 u 2 ∧ cdv f_441 G u ≤ mi f_441 u 3 by omega)) (cwV 0 G0.2.2.2.2 g_X12_term_X12_atom_174 rfl rfl rfl (by decide +kernel) ⟨(show f_atom + 1 ≤ fr + 1 by omega), (show 8 + (2 + 11) + l_atom ≤ lo + 60 by omega)⟩) (py_preV hw (C := RX12) (T := TX12) (N := 54) rfl h_443) rfl rfl hl.1 rfl (lv_room (Nat.le_of_ble_eq_true rfl)) dX12_term_44 ⟨(Nat.le_of_ble_eq_true rfl), (Nat.le_of_ble_eq_true rfl)⟩) (fun L_451 f_452 H_453 locs hp_454 hw => ?_)
            obtain ⟨en_456, en_457, en_458, hWF, kp_459, fk_460⟩ := hp_454
            have hFK := hFK.trans fk_460 (by decide)
            have hKP := hKP.trans kp_459 (by decide) (by decide)
            obtain ⟨v_461, v_462, v_463, hr_464⟩ := fk_3_4_5 hWF Tu fk_460 h_443
            have tq_465 := mi_row hr_464 2 rfl
            have tq_466 := mi_row hr_464 3 rfl
            have bv_461 := wf_free v_461
            have tq_467 := mi_row hr_464 4 rfl
            have bv_462 := wf_free v_462
            have tq_468 := mi_row hr_464 5 rfl
            have bv_463 := wf_free v_463
            have tq_469 := mi_row hr_464 14 rfl
            have hTR : TR f f_452 G u (14 - 2 * wb) 0 2 := hTR.trans (en_458.lift (b := 1) (by omega) (by omega) (by omega) (by omega)) (fun q => by omega)
            refine lv_aload_n G0.1 G0.2.1 dX12_term_47 rfl (lv_at hl 1 rfl) ?_
            refine lv_iload_n G0.1 G0.2.1 dX12_term_48 rfl (lv_at hl 0 rfl) ?_
            refine lv_bipush (v := 42) G0.1 G0.2.1 dX12_term_49 (by decide) ?_
            have jn_59 : ∀ (v_470 : Int32) (H_j59 : Heap) (locs : List Loc) (ls : Array Slot), (4 ≤ v_470.toInt ∧ v_470.toInt ≤ 5) → py_W E (va_A (va_pl L f) s.heap.size) s L_451 f_452 H_j59 locs → lv_has ls 2 [(1, .int v_292), (0, .ref u)] → W p l e (headSpec w_X12_term ({ frames := fr + 1, cells := 0, slots := 0, locals := lo + 60 })).room s m ([.ref u] : List Value).toArray below meth c H_j59 locs 0 0 (MQ below (py_Qv E L f s.heap.size (fun L1 f1 => (mi f u 3 ≤ mi f1 u 3 ∧ cdv f1 G u - cdv f G u ≤ mi f1 u 3 - mi f u 3 ∧ mi f1 u 3 ≤ 167 - mi f u 5) ∧ (mi f1 u 4 = -1 → mi f1 u 5 = mi f u 5 ∧ mi f1 u 3 ≤ mi f u 2) ∧ (TR f f1 G u (14 - 2 * wb) 0 1) ∧ WF E G L1 f1 ∧ KP G [41, 42, 43, 13] false f f1 ∧ FK [3, 4, 5] f f1 u)) ([.ref u] : List Value).toArray s 0 0 (va_A (va_pl L f) s.heap.size)) (F0 m 59 ls [.int v_470, .ref u]) := by
              intro v_470 H_j59 locs ls bv_470 hw hl
              refine lv_iconst (v := 0) G0.1 G0.2.1 dX12_term_59 (by decide) ?_
              refine py_callv hw (va_runV (As := [.int v_470, .int 0]) (rest := []) G0 (c_X12_put l E G L_451 f_452 H_j59.size u v_470 0 hG hWF Tu (show cdv f_452 G u ≤ 339 by omega)) (cwV 2 G0.2.2.2.2 g_X12_term_X12_put_156 rfl rfl rfl (by decide +kernel) ⟨(show 0 + 1 ≤ fr + 1 by omega), (show 8 + (3 + 11) + 0 ≤ lo + 60 by omega)⟩) (py_preV hw (C := RX12) (T := TX12) (N := 54) rfl hr_464) rfl rfl hl.1 rfl (lv_room (Nat.le_of_ble_eq_true rfl)) dX12_term_60 ⟨(Nat.le_of_ble_eq_true rfl), (Nat.le_of_ble_eq_true rfl)⟩) (fun L_471 f_472 H_473 locs hp_474 hw => ?_)
              obtain ⟨en_476, en_477, hWF, kp_478, fk_479⟩ := hp_474
              have en_476 : PT f_452 f_472 G u v_470 (0 : Int32) := en_476
              have hFK := hFK.trans fk_479 (by decide)
              have hKP := hKP.trans kp_478 (by decide) (by decide)
              have hr_464 := kp_at kp_478 hWF Tu (by decide) (by decide) (by decide) hr_464
              have tq_480 := mi_row hr_464 2 rfl
              have tq_481 := mi_row hr_464 3 rfl
              have bv_461 := wf_free v_461
              have tq_482 := mi_row hr_464 4 rfl
              have bv_462 := wf_free v_462
              have tq_483 := mi_row hr_464 5 rfl
              have bv_463 := wf_free v_463
              have tq_484 := mi_row hr_464 14 rfl
              have hTR : TR f f_472 G u (14 - 2 * wb) 0 1 := hTR.trans (en_476.tr (by omega)) (fun q => by omega)
              refine lv_aload_n G0.1 G0.2.1 dX12_term_63 rfl (lv_at hl 1 rfl) ?_
              refine py_get (C := RX12) (T := TX12) (N := 54) (k := 4) (v := .int v_462) G0 hw in_X12_term_X12 rfl hr_464 (by decide) (by decide +kernel) rfl dX12_term_64 ?_
              refine lv_iconst (v := (-1)) G0.1 G0.2.1 dX12_term_67 (by decide) ?_
              refine lv_icmp_ne (tgt := 78) G0.1 G0.2.1 dX12_term_68 (by decide) (fun c_485 => ?_) (fun c_485 => ?_)
              · skip
                have tc_485 := ti_ne c_485
                clear en_457
                refine lv_iconst (v := (-1)) G0.1 G0.2.1 dX12_term_78 (by decide) ?_
                refine lv_istore_n (lv' := [(1, .int (-1)), (0, .ref u)]) G0.1 G0.2.1 dX12_term_79 rfl hl (by decide) rfl (fun ls hl => ?_)
                refine lv_goto (tgt := 21) G0.1 G0.2.1 dX12_term_80 (by decide) ?_
                exact ih_21 ((mi f u 2 - mi f_472 u 3).toNat) (by omega) (-1) L_471 f_472 _ _ ls rfl hWF hKP hFK hTR (by first | omega | (intros; omega)) (by first | omega | (intros; omega)) (by first | omega | (intros; omega)) (by first | omega | (intros; omega)) hw (lv_sub hl [0, 1] rfl)
              · skip
                have tc_485 := ti_eq c_485
                replace en_457 := en_457 (by omega)
                refine lv_aload_n G0.1 G0.2.1 dX12_term_71 rfl (lv_at hl 1 rfl) ?_
                refine py_calli hw (va_runV (As := []) (rest := []) G0 (c_X12_look l E G L_471 f_472 H_473.size u hG hWF Tu (show 0 ≤ mi f_472 u 3 ∧ mi f_472 u 3 ≤ mi f_472 u 2 by omega)) (cwV 0 G0.2.2.2.2 g_X12_term_X12_look_146 rfl rfl rfl (by decide +kernel) ⟨(show 1 + 1 ≤ fr + 1 by omega), (show 8 + (1 + 11) + 20 ≤ lo + 60 by omega)⟩) (py_preV hw (C := RX12) (T := TX12) (N := 54) rfl hr_464) rfl rfl hl.1 rfl (lv_room (Nat.le_of_ble_eq_true rfl)) dX12_term_72 ⟨(Nat.le_of_ble_eq_true rfl), (Nat.le_of_ble_eq_true rfl)⟩) (fun r_490 L_486 f_487 H_488 locs hp_489 hw => ?_)
                obtain ⟨en_491, en_492, en_493, hWF, kp_494, fk_495⟩ := hp_489
                have cq_496 := cdv_k hG Tu kp_494 fk_495 (by decide)
                have hFK := hFK.trans fk_495 (by decide)
                have hKP := hKP.trans kp_494 (by decide) (by decide)
                obtain ⟨v_497, hr_498⟩ := fk_3 hWF Tu fk_495 hr_464
                have tq_499 := mi_row hr_498 2 rfl
                have tq_500 := mi_row hr_498 3 rfl
                have bv_497 := wf_free v_497
                have tq_501 := mi_row hr_498 4 rfl
                have bv_462 := wf_free v_462
                have tq_502 := mi_row hr_498 5 rfl
                have bv_463 := wf_free v_463
                have tq_503 := mi_row hr_498 14 rfl
                have hTR := hTR.kp hG Tu kp_494 fk_495 (by decide) (fun q => by omega)
                have br_490 := wf_free r_490
                refine lv_goto (tgt := 79) G0.1 G0.2.1 dX12_term_75 (by decide) ?_
                refine lv_istore_n (lv' := [(1, .int r_490), (0, .ref u)]) G0.1 G0.2.1 dX12_term_79 rfl hl (by decide) rfl (fun ls hl => ?_)
                refine lv_goto (tgt := 21) G0.1 G0.2.1 dX12_term_80 (by decide) ?_
                exact ih_21 ((mi f u 2 - mi f_487 u 3).toNat) (by omega) r_490 L_486 f_487 _ _ ls rfl hWF hKP hFK hTR (by first | omega | (intros; omega)) (by first | omega | (intros; omega)) (by first | omega | (intros; omega)) (by first | omega | (intros; omega)) hw (lv_sub hl [0, 1] rfl)
            refine lv_icmp_ne (tgt := 58) G0.1 G0.2.1 dX12_term_51 (by decide) (fun c_504 => ?_) (fun c_504 => ?_)
            · skip
              have tc_504 := ti_ne c_504
              refine lv_iconst (v := 5) G0.1 G0.2.1 dX12_term_58 (by decide) ?_
              exact jn_59 5 _ _ ls ⟨by omega, by omega⟩ hw (lv_sub hl [0, 1] rfl)
            · skip
              have tc_504 := ti_eq c_504
              refine lv_iconst (v := 4) G0.1 G0.2.1 dX12_term_54 (by decide) ?_
              refine lv_goto (tgt := 59) G0.1 G0.2.1 dX12_term_55 (by decide) ?_
              exact jn_59 4 _ _ ls ⟨by omega, by omega⟩ hw (lv_sub hl [0, 1] rfl)
    exact lo_21 _ r_278 L_274 f_275 _ _ ls rfl hWF hKP hFK hTR (by first | omega | (intros; omega)) (by first | omega | (intros; omega)) (by first | omega | (intros; omega)) (by first | omega | (intros; omega)) hw (lv_sub hl [0, 1] rfl)

set_option maxHeartbeats 4000000 in
set_option maxRecDepth 100000 in
theorem q_sum (l : Launch) (E : py_E) (G : wf_G) (hG : GT G) (wb : Int) (hwb : 0 ≤ wb) (fr lo : Nat) (hfr : 10 ≤ fr) (hlo : 300 ≤ lo) (f_term l_term : Nat) (x_term : f_term ≤ fr) (z_term : l_term ≤ lo) (ih_term : Q_term l E G wb f_term l_term) : Q_sum l E G wb (fr + 1) (lo + 60) := by
  intro L f sz u hWF Tu hp0
  refine Met.ofW (cc := cX12_sum) (maxL := 2) (ret := none) (by decide) rfl ?_
  intro p e s m args below meth c s₁ B hml hv
  obtain ⟨rfl, rfl, hw⟩ := py_start hv
  have G0 : CallFix p m c cX12_sum 2 s _ w_X12_sum RX12 := ⟨B.exec, B.bytes, hml, findClass_of_methodNamed B.named, atoms_spec (ws := w_X12_sum) B.pre⟩
  have hr := B.returns
  have hlk := B.notSynchronized
  have kcm1 : (-1 : Int32).toInt = -1 := rfl
  have kc0 : (0 : Int32).toInt = 0 := rfl
  have kc1 : (1 : Int32).toInt = 1 := rfl
  have kc2 : (2 : Int32).toInt = 2 := rfl
  have kc3 : (3 : Int32).toInt = 3 := rfl
  have kc43 : (43 : Int32).toInt = 43 := rfl
  have kc45 : (45 : Int32).toInt = 45 := rfl
  have hl := lv_entry ([.ref u]) (n := 2) (Nat.le_of_ble_eq_true rfl)
  rw [lg_entry_eq]
  generalize (lg_sl ([.ref u]) ++ List.replicate (2 - (lg_sl ([.ref u])).length) Slot.unset).toArray = ls at hl ⊢
  have hl : lv_has ls 2 [(0, .ref u)] := hl
  have hKP : KP G [41, 42, 43, 13] false f f := KP.refl
  have hFK : FK [3, 4, 5] f f u := FK.refl
  obtain ⟨v_1, v_2, v_3, v_4, v_5, v_6, v_7, v_8, v_9, v_10, v_11, v_12, y_13, v_14, v_15, v_16, v_17, v_18, y_19, v_20, y_21, v_22, hr_35, b_23, b_24, b_25, b_26, b_27, b_28, b_29, b_30, b_31, b_32, b_33, b_34⟩ := wg_12 hWF Tu
  have tq_36 := mi_row hr_35 2 rfl
  have tq_37 := mi_row hr_35 3 rfl
  have bv_3 := wf_free v_3
  have tq_38 := mi_row hr_35 4 rfl
  have bv_4 := wf_free v_4
  have tq_39 := mi_row hr_35 5 rfl
  have bv_5 := wf_free v_5
  have tq_40 := mi_row hr_35 14 rfl
  have hcd := cdv_rng hG hWF Tu (by omega) (by omega)
  have hTR : TR f f G u (15 - 2 * wb) 0 0 := TR.refl (by omega) (by omega)
  refine lv_aload_n G0.1 G0.2.1 dX12_sum_0 rfl (lv_at hl 0 rfl) ?_
  refine py_callv hw (va_runV (As := []) (rest := []) G0 (ih_term L f s.heap.size u hWF Tu (show mi f u 4 = -1 ∧ wb ≤ mi f u 5 ∧ mi f u 5 ≤ 6 ∧ 0 ≤ mi f u 3 ∧ mi f u 3 ≤ mi f u 2 ∧ cdv f G u ≤ mi f u 3 by omega)) (cwV 0 G0.2.2.2.2 g_X12_sum_X12_term_177 rfl rfl rfl (by decide +kernel) ⟨(show f_term + 1 ≤ fr + 1 by omega), (show 8 + (2 + 11) + l_term ≤ lo + 60 by omega)⟩) (py_preV hw (C := RX12) (T := TX12) (N := 54) rfl hr_35) rfl rfl hl.1 rfl (lv_room (Nat.le_of_ble_eq_true rfl)) dX12_sum_1 ⟨(Nat.le_of_ble_eq_true rfl), (Nat.le_of_ble_eq_true rfl)⟩) (fun L_41 f_42 H_43 locs hp_44 hw => ?_)
  obtain ⟨en_46, en_47, en_48, hWF, kp_49, fk_50⟩ := hp_44
  have hFK := hFK.trans fk_50 (by decide)
  have hKP := hKP.trans kp_49 (by decide) (by decide)
  obtain ⟨v_51, v_52, v_53, hr_54⟩ := fk_3_4_5 hWF Tu fk_50 hr_35
  have tq_55 := mi_row hr_54 2 rfl
  have tq_56 := mi_row hr_54 3 rfl
  have bv_51 := wf_free v_51
  have tq_57 := mi_row hr_54 4 rfl
  have bv_52 := wf_free v_52
  have tq_58 := mi_row hr_54 5 rfl
  have bv_53 := wf_free v_53
  have tq_59 := mi_row hr_54 14 rfl
  have hTR : TR f f_42 G u (15 - 2 * wb) 0 1 := hTR.trans (en_48.lift (b := 0) (by omega) (by omega) (by omega) (by omega)) (fun q => by omega)
  refine lv_aload_n G0.1 G0.2.1 dX12_sum_4 rfl (lv_at hl 0 rfl) ?_
  refine py_get (C := RX12) (T := TX12) (N := 54) (k := 4) (v := .int v_52) G0 hw in_X12_sum_X12 rfl hr_54 (by decide) (by decide +kernel) rfl dX12_sum_5 ?_
  refine lv_iconst (v := (-1)) G0.1 G0.2.1 dX12_sum_8 (by decide) ?_
  refine lv_icmp_ne (tgt := 19) G0.1 G0.2.1 dX12_sum_9 (by decide) (fun c_60 => ?_) (fun c_60 => ?_)
  · skip
    have tc_60 := ti_ne c_60
    clear en_47
    refine lv_iconst (v := (-1)) G0.1 G0.2.1 dX12_sum_19 (by decide) ?_
    refine lv_istore_n (lv' := [(1, .int (-1)), (0, .ref u)]) G0.1 G0.2.1 dX12_sum_20 rfl hl (by decide) rfl (fun ls hl => ?_)
    have lo_21 : ∀ n_21 : Nat, ∀ (v_61 : Int32) (L_j21 : List Nat) (f_j21 : py_F) (H_j21 : Heap) (locs : List Loc) (ls : Array Slot), (mi f u 2 - mi f_j21 u 3).toNat = n_21 → WF E G L_j21 f_j21 → KP G [41, 42, 43, 13] false f f_j21 → FK [3, 4, 5] f f_j21 u → TR f f_j21 G u (15 - 2 * wb) 0 1 → (mi f u 3 ≤ mi f_j21 u 3 ∧ cdv f_j21 G u - cdv f G u ≤ mi f_j21 u 3 - mi f u 3 ∧ mi f_j21 u 3 ≤ 167 - mi f u 5) → (mi f_j21 u 4 = -1 → mi f_j21 u 5 = mi f u 5 ∧ mi f_j21 u 3 ≤ mi f u 2) → (v_61.toInt ≠ -1 → mi f_j21 u 4 = -1 ∧ mi f_j21 u 3 < mi f u 2) → (mi f_j21 u 2 = mi f u 2) → py_W E (va_A (va_pl L f) s.heap.size) s L_j21 f_j21 H_j21 locs → lv_has ls 2 [(1, .int v_61), (0, .ref u)] → W p l e (headSpec w_X12_sum ({ frames := fr + 1, cells := 0, slots := 0, locals := lo + 60 })).room s m ([.ref u] : List Value).toArray below meth c H_j21 locs 0 0 (MQ below (py_Qv E L f s.heap.size (fun L1 f1 => (mi f u 3 ≤ mi f1 u 3 ∧ cdv f1 G u - cdv f G u ≤ mi f1 u 3 - mi f u 3 ∧ mi f1 u 3 ≤ 167 - mi f u 5) ∧ (mi f1 u 4 = -1 → mi f1 u 5 = mi f u 5 ∧ mi f1 u 3 ≤ mi f u 2) ∧ (TR f f1 G u (15 - 2 * wb) 0 1) ∧ WF E G L1 f1 ∧ KP G [41, 42, 43, 13] false f f1 ∧ FK [3, 4, 5] f f1 u)) ([.ref u] : List Value).toArray s 0 0 (va_A (va_pl L f) s.heap.size)) (F0 m 21 ls []) := by
      intro n_21
      induction n_21 using Nat.strongRecOn with
      | _ n_21 ih_21 =>
        intro v_61 L_j21 f_j21 H_j21 locs ls hn_21 hWF hKP hFK hTR iv0 iv1 iv2 iv3 hw hl
        refine lv_iload_n G0.1 G0.2.1 dX12_sum_21 rfl (lv_at hl 0 rfl) ?_
        refine lv_bipush (v := 43) G0.1 G0.2.1 dX12_sum_22 (by decide) ?_
        refine lv_icmp_eq (tgt := 33) G0.1 G0.2.1 dX12_sum_24 (by decide) (fun c_62 => ?_) (fun c_62 => ?_)
        · skip
          have tc_62 := ti_eq c_62
          replace iv2 := iv2 (by omega)
          refine lv_aload_n G0.1 G0.2.1 dX12_sum_33 rfl (lv_at hl 1 rfl) ?_
          refine lv_dup G0.1 G0.2.1 dX12_sum_34 rfl ?_
          obtain ⟨v_63, v_64, v_65, v_66, v_67, v_68, v_69, v_70, v_71, v_72, v_73, v_74, y_75, v_76, v_77, v_78, v_79, v_80, y_81, v_82, y_83, v_84, hr_97, b_85, b_86, b_87, b_88, b_89, b_90, b_91, b_92, b_93, b_94, b_95, b_96⟩ := wg_12 hWF Tu
          have tq_98 := mi_row hr_97 2 rfl
          have tq_99 := mi_row hr_97 3 rfl
          have bv_65 := wf_free v_65
          have tq_100 := mi_row hr_97 4 rfl
          have bv_66 := wf_free v_66
          have tq_101 := mi_row hr_97 5 rfl
          have bv_67 := wf_free v_67
          have tq_102 := mi_row hr_97 14 rfl
          refine py_get (C := RX12) (T := TX12) (N := 54) (k := 3) (v := .int v_65) G0 hw in_X12_sum_X12 rfl hr_97 (by decide) (by decide +kernel) rfl dX12_sum_35 ?_
          refine lv_iconst (v := 1) G0.1 G0.2.1 dX12_sum_38 (by decide) ?_
          refine lv_iadd G0.1 G0.2.1 dX12_sum_39 ?_
          refine lv_topi (fun x_103 ex_103 => ?_)
          first | have tx_103 := ti_add ex_103 (by omega -splitDisjunctions) (by omega -splitDisjunctions) | skip
          refine py_put (C := RX12) (T := TX12) (N := 54) (k := 3) (v := .int x_103) (fs' := [.int v_63, .ref (G.2 u 1), .int v_64, .int x_103, .int v_66, .int v_67, .ref (G.2 u 6), .ref (G.2 u 7), .ref (G.2 u 8), .ref (G.2 u 9), .ref (G.2 u 10), .ref (G.2 u 11), .ref (G.2 u 12), .int v_68, .int v_69, .ref (G.2 u 15), .ref (G.2 u 16), .ref (G.2 u 17), .ref (G.2 u 18), .int v_70, .int v_71, .ref (G.2 u 21), .ref (G.2 u 22), .ref (G.2 u 23), .int v_72, .int v_73, .ref (G.2 u 26), .ref (G.2 u 27), .ref (G.2 u 28), .int v_74, .long y_75, .int v_76, .int v_77, .int v_78, .int v_79, .ref (G.2 u 35), .ref (G.2 u 36), .ref (G.2 u 37), .ref (G.2 u 38), .ref (G.2 u 39), .ref (G.2 u 40), .ref (G.2 u 41), .ref (G.2 u 42), .int v_80, .ref (G.2 u 44), .ref (G.2 u 45), .ref (G.2 u 46), .ref (G.2 u 47), .long y_81, .ref (G.2 u 49), .ref (G.2 u 50), .int v_82, .long y_83, .int v_84]) (ty0 := tyX12) G0 hw tyX12_ok nmX12 in_X12_sum_X12 rfl hr_97 (by decide) (by decide +kernel) rfl rfl rfl rfl (Nat.le_of_ble_eq_true rfl) rfl dX12_sum_40 (fun f_104 H_105 locs h_106 x_107 hw => ?_)
          have hFK := hFK.put hr_97 h_106 3 (by decide) rfl
          have cq_108 := cdv_own (f1 := f_j21) (f2 := f_104) hG hWF Tu x_107 (by have z1 := mi_row hr_97 14 rfl; have z2 := mi_row h_106 14 rfl; omega)
          have hTR := hTR.own hG hWF Tu x_107 (by have z1 := mi_row hr_97 14 rfl; have z2 := mi_row h_106 14 rfl; omega) (by intro q; have z1 := mi_row hr_97 4 rfl; have z2 := mi_row h_106 4 rfl; omega)
          have hKP := hKP.upd hWF x_107 Tu (Or.inl (by decide))
          have hWF := wf_upd hWF h_106 x_107 (by rw [Tu]; exact ⟨v_63, v_64, x_103, v_66, v_67, v_68, v_69, v_70, v_71, v_72, v_73, v_74, y_75, v_76, v_77, v_78, v_79, v_80, y_81, v_82, y_83, v_84, rfl, ⟨by omega, by omega⟩, ⟨by omega, by omega⟩, ⟨by omega, by omega⟩, ⟨by omega, by omega⟩, ⟨by omega, by omega⟩, ⟨by omega, by omega⟩, ⟨by omega, by omega⟩, ⟨by omega, by omega⟩, ⟨by omega, by omega⟩, ⟨by omega, by omega⟩, ⟨by omega, by omega⟩, ⟨by omega, by omega⟩⟩)
          have tq_109 := mi_row h_106 2 rfl
          have tq_110 := mi_row h_106 3 rfl
          have bx_103 := wf_free x_103
          have tq_111 := mi_row h_106 4 rfl
          have bv_66 := wf_free v_66
          have tq_112 := mi_row h_106 5 rfl
          have bv_67 := wf_free v_67
          have tq_113 := mi_row h_106 14 rfl
          refine lv_aload_n G0.1 G0.2.1 dX12_sum_43 rfl (lv_at hl 1 rfl) ?_
          refine py_callv hw (va_runV (As := []) (rest := []) G0 (ih_term L_j21 f_104 H_105.size u hWF Tu (show mi f_104 u 4 = -1 ∧ wb ≤ mi f_104 u 5 ∧ mi f_104 u 5 ≤ 6 ∧ 0 ≤ mi f_104 u 3 ∧ mi f_104 u 3 ≤ mi f_104 u 2 ∧ cdv f_104 G u ≤ mi f_104 u 3 by omega)) (cwV 0 G0.2.2.2.2 g_X12_sum_X12_term_177 rfl rfl rfl (by decide +kernel) ⟨(show f_term + 1 ≤ fr + 1 by omega), (show 8 + (2 + 11) + l_term ≤ lo + 60 by omega)⟩) (py_preV hw (C := RX12) (T := TX12) (N := 54) rfl h_106) rfl rfl hl.1 rfl (lv_room (Nat.le_of_ble_eq_true rfl)) dX12_sum_44 ⟨(Nat.le_of_ble_eq_true rfl), (Nat.le_of_ble_eq_true rfl)⟩) (fun L_114 f_115 H_116 locs hp_117 hw => ?_)
          obtain ⟨en_119, en_120, en_121, hWF, kp_122, fk_123⟩ := hp_117
          have hFK := hFK.trans fk_123 (by decide)
          have hKP := hKP.trans kp_122 (by decide) (by decide)
          obtain ⟨v_124, v_125, v_126, hr_127⟩ := fk_3_4_5 hWF Tu fk_123 h_106
          have tq_128 := mi_row hr_127 2 rfl
          have tq_129 := mi_row hr_127 3 rfl
          have bv_124 := wf_free v_124
          have tq_130 := mi_row hr_127 4 rfl
          have bv_125 := wf_free v_125
          have tq_131 := mi_row hr_127 5 rfl
          have bv_126 := wf_free v_126
          have tq_132 := mi_row hr_127 14 rfl
          have hTR : TR f f_115 G u (15 - 2 * wb) 0 2 := hTR.trans (en_121.lift (b := 1) (by omega) (by omega) (by omega) (by omega)) (fun q => by omega)
          refine lv_aload_n G0.1 G0.2.1 dX12_sum_47 rfl (lv_at hl 1 rfl) ?_
          refine lv_iload_n G0.1 G0.2.1 dX12_sum_48 rfl (lv_at hl 0 rfl) ?_
          refine lv_bipush (v := 43) G0.1 G0.2.1 dX12_sum_49 (by decide) ?_
          have jn_59 : ∀ (v_133 : Int32) (H_j59 : Heap) (locs : List Loc) (ls : Array Slot), (2 ≤ v_133.toInt ∧ v_133.toInt ≤ 3) → py_W E (va_A (va_pl L f) s.heap.size) s L_114 f_115 H_j59 locs → lv_has ls 2 [(1, .int v_61), (0, .ref u)] → W p l e (headSpec w_X12_sum ({ frames := fr + 1, cells := 0, slots := 0, locals := lo + 60 })).room s m ([.ref u] : List Value).toArray below meth c H_j59 locs 0 0 (MQ below (py_Qv E L f s.heap.size (fun L1 f1 => (mi f u 3 ≤ mi f1 u 3 ∧ cdv f1 G u - cdv f G u ≤ mi f1 u 3 - mi f u 3 ∧ mi f1 u 3 ≤ 167 - mi f u 5) ∧ (mi f1 u 4 = -1 → mi f1 u 5 = mi f u 5 ∧ mi f1 u 3 ≤ mi f u 2) ∧ (TR f f1 G u (15 - 2 * wb) 0 1) ∧ WF E G L1 f1 ∧ KP G [41, 42, 43, 13] false f f1 ∧ FK [3, 4, 5] f f1 u)) ([.ref u] : List Value).toArray s 0 0 (va_A (va_pl L f) s.heap.size)) (F0 m 59 ls [.int v_133, .ref u]) := by
            intro v_133 H_j59 locs ls bv_133 hw hl
            refine lv_iconst (v := 0) G0.1 G0.2.1 dX12_sum_59 (by decide) ?_
            refine py_callv hw (va_runV (As := [.int v_133, .int 0]) (rest := []) G0 (c_X12_put l E G L_114 f_115 H_j59.size u v_133 0 hG hWF Tu (show cdv f_115 G u ≤ 339 by omega)) (cwV 2 G0.2.2.2.2 g_X12_sum_X12_put_156 rfl rfl rfl (by decide +kernel) ⟨(show 0 + 1 ≤ fr + 1 by omega), (show 8 + (3 + 11) + 0 ≤ lo + 60 by omega)⟩) (py_preV hw (C := RX12) (T := TX12) (N := 54) rfl hr_127) rfl rfl hl.1 rfl (lv_room (Nat.le_of_ble_eq_true rfl)) dX12_sum_60 ⟨(Nat.le_of_ble_eq_true rfl), (Nat.le_of_ble_eq_true rfl)⟩) (fun L_134 f_135 H_136 locs hp_137 hw => ?_)
            obtain ⟨en_139, en_140, hWF, kp_141, fk_142⟩ := hp_137
            have en_139 : PT f_115 f_135 G u v_133 (0 : Int32) := en_139
            have hFK := hFK.trans fk_142 (by decide)
            have hKP := hKP.trans kp_141 (by decide) (by decide)
            have hr_127 := kp_at kp_141 hWF Tu (by decide) (by decide) (by decide) hr_127
            have tq_143 := mi_row hr_127 2 rfl
            have tq_144 := mi_row hr_127 3 rfl
            have bv_124 := wf_free v_124
            have tq_145 := mi_row hr_127 4 rfl
            have bv_125 := wf_free v_125
            have tq_146 := mi_row hr_127 5 rfl
            have bv_126 := wf_free v_126
            have tq_147 := mi_row hr_127 14 rfl
            have hTR : TR f f_135 G u (15 - 2 * wb) 0 1 := hTR.trans (en_139.tr (by omega)) (fun q => by omega)
            refine lv_aload_n G0.1 G0.2.1 dX12_sum_63 rfl (lv_at hl 1 rfl) ?_
            refine py_get (C := RX12) (T := TX12) (N := 54) (k := 4) (v := .int v_125) G0 hw in_X12_sum_X12 rfl hr_127 (by decide) (by decide +kernel) rfl dX12_sum_64 ?_
            refine lv_iconst (v := (-1)) G0.1 G0.2.1 dX12_sum_67 (by decide) ?_
            refine lv_icmp_ne (tgt := 78) G0.1 G0.2.1 dX12_sum_68 (by decide) (fun c_148 => ?_) (fun c_148 => ?_)
            · skip
              have tc_148 := ti_ne c_148
              clear en_120
              refine lv_iconst (v := (-1)) G0.1 G0.2.1 dX12_sum_78 (by decide) ?_
              refine lv_istore_n (lv' := [(1, .int (-1)), (0, .ref u)]) G0.1 G0.2.1 dX12_sum_79 rfl hl (by decide) rfl (fun ls hl => ?_)
              refine lv_goto (tgt := 21) G0.1 G0.2.1 dX12_sum_80 (by decide) ?_
              exact ih_21 ((mi f u 2 - mi f_135 u 3).toNat) (by omega) (-1) L_134 f_135 _ _ ls rfl hWF hKP hFK hTR (by first | omega | (intros; omega)) (by first | omega | (intros; omega)) (by first | omega | (intros; omega)) (by first | omega | (intros; omega)) hw (lv_sub hl [0, 1] rfl)
            · skip
              have tc_148 := ti_eq c_148
              replace en_120 := en_120 (by omega)
              refine lv_aload_n G0.1 G0.2.1 dX12_sum_71 rfl (lv_at hl 1 rfl) ?_
              refine py_calli hw (va_runV (As := []) (rest := []) G0 (c_X12_look l E G L_134 f_135 H_136.size u hG hWF Tu (show 0 ≤ mi f_135 u 3 ∧ mi f_135 u 3 ≤ mi f_135 u 2 by omega)) (cwV 0 G0.2.2.2.2 g_X12_sum_X12_look_146 rfl rfl rfl (by decide +kernel) ⟨(show 1 + 1 ≤ fr + 1 by omega), (show 8 + (1 + 11) + 20 ≤ lo + 60 by omega)⟩) (py_preV hw (C := RX12) (T := TX12) (N := 54) rfl hr_127) rfl rfl hl.1 rfl (lv_room (Nat.le_of_ble_eq_true rfl)) dX12_sum_72 ⟨(Nat.le_of_ble_eq_true rfl), (Nat.le_of_ble_eq_true rfl)⟩) (fun r_153 L_149 f_150 H_151 locs hp_152 hw => ?_)
              obtain ⟨en_154, en_155, en_156, hWF, kp_157, fk_158⟩ := hp_152
              have cq_159 := cdv_k hG Tu kp_157 fk_158 (by decide)
              have hFK := hFK.trans fk_158 (by decide)
              have hKP := hKP.trans kp_157 (by decide) (by decide)
              obtain ⟨v_160, hr_161⟩ := fk_3 hWF Tu fk_158 hr_127
              have tq_162 := mi_row hr_161 2 rfl
              have tq_163 := mi_row hr_161 3 rfl
              have bv_160 := wf_free v_160
              have tq_164 := mi_row hr_161 4 rfl
              have bv_125 := wf_free v_125
              have tq_165 := mi_row hr_161 5 rfl
              have bv_126 := wf_free v_126
              have tq_166 := mi_row hr_161 14 rfl
              have hTR := hTR.kp hG Tu kp_157 fk_158 (by decide) (fun q => by omega)
              have br_153 := wf_free r_153
              refine lv_goto (tgt := 79) G0.1 G0.2.1 dX12_sum_75 (by decide) ?_
              refine lv_istore_n (lv' := [(1, .int r_153), (0, .ref u)]) G0.1 G0.2.1 dX12_sum_79 rfl hl (by decide) rfl (fun ls hl => ?_)
              refine lv_goto (tgt := 21) G0.1 G0.2.1 dX12_sum_80 (by decide) ?_
              exact ih_21 ((mi f u 2 - mi f_150 u 3).toNat) (by omega) r_153 L_149 f_150 _ _ ls rfl hWF hKP hFK hTR (by first | omega | (intros; omega)) (by first | omega | (intros; omega)) (by first | omega | (intros; omega)) (by first | omega | (intros; omega)) hw (lv_sub hl [0, 1] rfl)
          refine lv_icmp_ne (tgt := 58) G0.1 G0.2.1 dX12_sum_51 (by decide) (fun c_167 => ?_) (fun c_167 => ?_)
          · skip
            have tc_167 := ti_ne c_167
            refine lv_iconst (v := 3) G0.1 G0.2.1 dX12_sum_58 (by decide) ?_
            exact jn_59 3 _ _ ls ⟨by omega, by omega⟩ hw (lv_sub hl [0, 1] rfl)
          · skip
            have tc_167 := ti_eq c_167
            refine lv_iconst (v := 2) G0.1 G0.2.1 dX12_sum_54 (by decide) ?_
            refine lv_goto (tgt := 59) G0.1 G0.2.1 dX12_sum_55 (by decide) ?_
            exact jn_59 2 _ _ ls ⟨by omega, by omega⟩ hw (lv_sub hl [0, 1] rfl)
        · skip
          have tc_62 := ti_ne c_62
          refine lv_iload_n G0.1 G0.2.1 dX12_sum_27 rfl (lv_at hl 0 rfl) ?_
          refine lv_bipush (v := 45) G0.1 G0.2.1 dX12_sum_28 (by decide) ?_
          refine lv_icmp_ne (tgt := 83) G0.1 G0.2.1 dX12_sum_30 (by decide) (fun c_168 => ?_) (fun c_168 => ?_)
          · skip
            have tc_168 := ti_ne c_168
            exact py_vret G0 hr hlk hw ⟨(by first | omega | (intro q; omega)), (by first | omega | (intro q; omega)), hTR, hWF, hKP, hFK⟩ dX12_sum_83
          · skip
            have tc_168 := ti_eq c_168
            replace iv2 := iv2 (by omega)
            refine lv_aload_n G0.1 G0.2.1 dX12_sum_33 rfl (lv_at hl 1 rfl) ?_
            refine lv_dup G0.1 G0.2.1 dX12_sum_34 rfl ?_
            obtain ⟨v_169, v_170, v_171, v_172, v_173, v_174, v_175, v_176, v_177, v_178, v_179, v_180, y_181, v_182, v_183, v_184, v_185, v_186, y_187, v_188, y_189, v_190, hr_203, b_191, b_192, b_193, b_194, b_195, b_196, b_197, b_198, b_199, b_200, b_201, b_202⟩ := wg_12 hWF Tu
            have tq_204 := mi_row hr_203 2 rfl
            have tq_205 := mi_row hr_203 3 rfl
            have bv_171 := wf_free v_171
            have tq_206 := mi_row hr_203 4 rfl
            have bv_172 := wf_free v_172
            have tq_207 := mi_row hr_203 5 rfl
            have bv_173 := wf_free v_173
            have tq_208 := mi_row hr_203 14 rfl
            refine py_get (C := RX12) (T := TX12) (N := 54) (k := 3) (v := .int v_171) G0 hw in_X12_sum_X12 rfl hr_203 (by decide) (by decide +kernel) rfl dX12_sum_35 ?_
            refine lv_iconst (v := 1) G0.1 G0.2.1 dX12_sum_38 (by decide) ?_
            refine lv_iadd G0.1 G0.2.1 dX12_sum_39 ?_
            refine lv_topi (fun x_209 ex_209 => ?_)
            first | have tx_209 := ti_add ex_209 (by omega -splitDisjunctions) (by omega -splitDisjunctions) | skip
            refine py_put (C := RX12) (T := TX12) (N := 54) (k := 3) (v := .int x_209) (fs' := [.int v_169, .ref (G.2 u 1), .int v_170, .int x_209, .int v_172, .int v_173, .ref (G.2 u 6), .ref (G.2 u 7), .ref (G.2 u 8), .ref (G.2 u 9), .ref (G.2 u 10), .ref (G.2 u 11), .ref (G.2 u 12), .int v_174, .int v_175, .ref (G.2 u 15), .ref (G.2 u 16), .ref (G.2 u 17), .ref (G.2 u 18), .int v_176, .int v_177, .ref (G.2 u 21), .ref (G.2 u 22), .ref (G.2 u 23), .int v_178, .int v_179, .ref (G.2 u 26), .ref (G.2 u 27), .ref (G.2 u 28), .int v_180, .long y_181, .int v_182, .int v_183, .int v_184, .int v_185, .ref (G.2 u 35), .ref (G.2 u 36), .ref (G.2 u 37), .ref (G.2 u 38), .ref (G.2 u 39), .ref (G.2 u 40), .ref (G.2 u 41), .ref (G.2 u 42), .int v_186, .ref (G.2 u 44), .ref (G.2 u 45), .ref (G.2 u 46), .ref (G.2 u 47), .long y_187, .ref (G.2 u 49), .ref (G.2 u 50), .int v_188, .long y_189, .int v_190]) (ty0 := tyX12) G0 hw tyX12_ok nmX12 in_X12_sum_X12 rfl hr_203 (by decide) (by decide +kernel) rfl rfl rfl rfl (Nat.le_of_ble_eq_true rfl) rfl dX12_sum_40 (fun f_210 H_211 locs h_212 x_213 hw => ?_)
            have hFK := hFK.put hr_203 h_212 3 (by decide) rfl
            have cq_214 := cdv_own (f1 := f_j21) (f2 := f_210) hG hWF Tu x_213 (by have z1 := mi_row hr_203 14 rfl; have z2 := mi_row h_212 14 rfl; omega)
            have hTR := hTR.own hG hWF Tu x_213 (by have z1 := mi_row hr_203 14 rfl; have z2 := mi_row h_212 14 rfl; omega) (by intro q; have z1 := mi_row hr_203 4 rfl; have z2 := mi_row h_212 4 rfl; omega)
            have hKP := hKP.upd hWF x_213 Tu (Or.inl (by decide))
            have hWF := wf_upd hWF h_212 x_213 (by rw [Tu]; exact ⟨v_169, v_170, x_209, v_172, v_173, v_174, v_175, v_176, v_177, v_178, v_179, v_180, y_181, v_182, v_183, v_184, v_185, v_186, y_187, v_188, y_189, v_190, rfl, ⟨by omega, by omega⟩, ⟨by omega, by omega⟩, ⟨by omega, by omega⟩, ⟨by omega, by omega⟩, ⟨by omega, by omega⟩, ⟨by omega, by omega⟩, ⟨by omega, by omega⟩, ⟨by omega, by omega⟩, ⟨by omega, by omega⟩, ⟨by omega, by omega⟩, ⟨by omega, by omega⟩, ⟨by omega, by omega⟩⟩)
            have tq_215 := mi_row h_212 2 rfl
            have tq_216 := mi_row h_212 3 rfl
            have bx_209 := wf_free x_209
            have tq_217 := mi_row h_212 4 rfl
            have bv_172 := wf_free v_172
            have tq_218 := mi_row h_212 5 rfl
            have bv_173 := wf_free v_173
            have tq_219 := mi_row h_212 14 rfl
            refine lv_aload_n G0.1 G0.2.1 dX12_sum_43 rfl (lv_at hl 1 rfl) ?_
            refine py_callv hw (va_runV (As := []) (rest := []) G0 (ih_term L_j21 f_210 H_211.size u hWF Tu (show mi f_210 u 4 = -1 ∧ wb ≤ mi f_210 u 5 ∧ mi f_210 u 5 ≤ 6 ∧ 0 ≤ mi f_210 u 3 ∧ mi f_210 u 3 ≤ mi f_210 u 2 ∧ cdv f_210 G u ≤ mi f_210 u 3 by omega)) (cwV 0 G0.2.2.2.2 g_X12_sum_X12_term_177 rfl rfl rfl (by decide +kernel) ⟨(show f_term + 1 ≤ fr + 1 by omega), (show 8 + (2 + 11) + l_term ≤ lo + 60 by omega)⟩) (py_preV hw (C := RX12) (T := TX12) (N := 54) rfl h_212) rfl rfl hl.1 rfl (lv_room (Nat.le_of_ble_eq_true rfl)) dX12_sum_44 ⟨(Nat.le_of_ble_eq_true rfl), (Nat.le_of_ble_eq_true rfl)⟩) (fun L_220 f_221 H_222 locs hp_223 hw => ?_)
            obtain ⟨en_225, en_226, en_227, hWF, kp_228, fk_229⟩ := hp_223
            have hFK := hFK.trans fk_229 (by decide)
            have hKP := hKP.trans kp_228 (by decide) (by decide)
            obtain ⟨v_230, v_231, v_232, hr_233⟩ := fk_3_4_5 hWF Tu fk_229 h_212
            have tq_234 := mi_row hr_233 2 rfl
            have tq_235 := mi_row hr_233 3 rfl
            have bv_230 := wf_free v_230
            have tq_236 := mi_row hr_233 4 rfl
            have bv_231 := wf_free v_231
            have tq_237 := mi_row hr_233 5 rfl
            have bv_232 := wf_free v_232
            have tq_238 := mi_row hr_233 14 rfl
            have hTR : TR f f_221 G u (15 - 2 * wb) 0 2 := hTR.trans (en_227.lift (b := 1) (by omega) (by omega) (by omega) (by omega)) (fun q => by omega)
            refine lv_aload_n G0.1 G0.2.1 dX12_sum_47 rfl (lv_at hl 1 rfl) ?_
            refine lv_iload_n G0.1 G0.2.1 dX12_sum_48 rfl (lv_at hl 0 rfl) ?_
            refine lv_bipush (v := 43) G0.1 G0.2.1 dX12_sum_49 (by decide) ?_
            have jn_59 : ∀ (v_239 : Int32) (H_j59 : Heap) (locs : List Loc) (ls : Array Slot), (2 ≤ v_239.toInt ∧ v_239.toInt ≤ 3) → py_W E (va_A (va_pl L f) s.heap.size) s L_220 f_221 H_j59 locs → lv_has ls 2 [(1, .int v_61), (0, .ref u)] → W p l e (headSpec w_X12_sum ({ frames := fr + 1, cells := 0, slots := 0, locals := lo + 60 })).room s m ([.ref u] : List Value).toArray below meth c H_j59 locs 0 0 (MQ below (py_Qv E L f s.heap.size (fun L1 f1 => (mi f u 3 ≤ mi f1 u 3 ∧ cdv f1 G u - cdv f G u ≤ mi f1 u 3 - mi f u 3 ∧ mi f1 u 3 ≤ 167 - mi f u 5) ∧ (mi f1 u 4 = -1 → mi f1 u 5 = mi f u 5 ∧ mi f1 u 3 ≤ mi f u 2) ∧ (TR f f1 G u (15 - 2 * wb) 0 1) ∧ WF E G L1 f1 ∧ KP G [41, 42, 43, 13] false f f1 ∧ FK [3, 4, 5] f f1 u)) ([.ref u] : List Value).toArray s 0 0 (va_A (va_pl L f) s.heap.size)) (F0 m 59 ls [.int v_239, .ref u]) := by
              intro v_239 H_j59 locs ls bv_239 hw hl
              refine lv_iconst (v := 0) G0.1 G0.2.1 dX12_sum_59 (by decide) ?_
              refine py_callv hw (va_runV (As := [.int v_239, .int 0]) (rest := []) G0 (c_X12_put l E G L_220 f_221 H_j59.size u v_239 0 hG hWF Tu (show cdv f_221 G u ≤ 339 by omega)) (cwV 2 G0.2.2.2.2 g_X12_sum_X12_put_156 rfl rfl rfl (by decide +kernel) ⟨(show 0 + 1 ≤ fr + 1 by omega), (show 8 + (3 + 11) + 0 ≤ lo + 60 by omega)⟩) (py_preV hw (C := RX12) (T := TX12) (N := 54) rfl hr_233) rfl rfl hl.1 rfl (lv_room (Nat.le_of_ble_eq_true rfl)) dX12_sum_60 ⟨(Nat.le_of_ble_eq_true rfl), (Nat.le_of_ble_eq_true rfl)⟩) (fun L_240 f_241 H_242 locs hp_243 hw => ?_)
              obtain ⟨en_245, en_246, hWF, kp_247, fk_248⟩ := hp_243
              have en_245 : PT f_221 f_241 G u v_239 (0 : Int32) := en_245
              have hFK := hFK.trans fk_248 (by decide)
              have hKP := hKP.trans kp_247 (by decide) (by decide)
              have hr_233 := kp_at kp_247 hWF Tu (by decide) (by decide) (by decide) hr_233
              have tq_249 := mi_row hr_233 2 rfl
              have tq_250 := mi_row hr_233 3 rfl
              have bv_230 := wf_free v_230
              have tq_251 := mi_row hr_233 4 rfl
              have bv_231 := wf_free v_231
              have tq_252 := mi_row hr_233 5 rfl
              have bv_232 := wf_free v_232
              have tq_253 := mi_row hr_233 14 rfl
              have hTR : TR f f_241 G u (15 - 2 * wb) 0 1 := hTR.trans (en_245.tr (by omega)) (fun q => by omega)
              refine lv_aload_n G0.1 G0.2.1 dX12_sum_63 rfl (lv_at hl 1 rfl) ?_
              refine py_get (C := RX12) (T := TX12) (N := 54) (k := 4) (v := .int v_231) G0 hw in_X12_sum_X12 rfl hr_233 (by decide) (by decide +kernel) rfl dX12_sum_64 ?_
              refine lv_iconst (v := (-1)) G0.1 G0.2.1 dX12_sum_67 (by decide) ?_
              refine lv_icmp_ne (tgt := 78) G0.1 G0.2.1 dX12_sum_68 (by decide) (fun c_254 => ?_) (fun c_254 => ?_)
              · skip
                have tc_254 := ti_ne c_254
                clear en_226
                refine lv_iconst (v := (-1)) G0.1 G0.2.1 dX12_sum_78 (by decide) ?_
                refine lv_istore_n (lv' := [(1, .int (-1)), (0, .ref u)]) G0.1 G0.2.1 dX12_sum_79 rfl hl (by decide) rfl (fun ls hl => ?_)
                refine lv_goto (tgt := 21) G0.1 G0.2.1 dX12_sum_80 (by decide) ?_
                exact ih_21 ((mi f u 2 - mi f_241 u 3).toNat) (by omega) (-1) L_240 f_241 _ _ ls rfl hWF hKP hFK hTR (by first | omega | (intros; omega)) (by first | omega | (intros; omega)) (by first | omega | (intros; omega)) (by first | omega | (intros; omega)) hw (lv_sub hl [0, 1] rfl)
              · skip
                have tc_254 := ti_eq c_254
                replace en_226 := en_226 (by omega)
                refine lv_aload_n G0.1 G0.2.1 dX12_sum_71 rfl (lv_at hl 1 rfl) ?_
                refine py_calli hw (va_runV (As := []) (rest := []) G0 (c_X12_look l E G L_240 f_241 H_242.size u hG hWF Tu (show 0 ≤ mi f_241 u 3 ∧ mi f_241 u 3 ≤ mi f_241 u 2 by omega)) (cwV 0 G0.2.2.2.2 g_X12_sum_X12_look_146 rfl rfl rfl (by decide +kernel) ⟨(show 1 + 1 ≤ fr + 1 by omega), (show 8 + (1 + 11) + 20 ≤ lo + 60 by omega)⟩) (py_preV hw (C := RX12) (T := TX12) (N := 54) rfl hr_233) rfl rfl hl.1 rfl (lv_room (Nat.le_of_ble_eq_true rfl)) dX12_sum_72 ⟨(Nat.le_of_ble_eq_true rfl), (Nat.le_of_ble_eq_true rfl)⟩) (fun r_259 L_255 f_256 H_257 locs hp_258 hw => ?_)
                obtain ⟨en_260, en_261, en_262, hWF, kp_263, fk_264⟩ := hp_258
                have cq_265 := cdv_k hG Tu kp_263 fk_264 (by decide)
                have hFK := hFK.trans fk_264 (by decide)
                have hKP := hKP.trans kp_263 (by decide) (by decide)
                obtain ⟨v_266, hr_267⟩ := fk_3 hWF Tu fk_264 hr_233
                have tq_268 := mi_row hr_267 2 rfl
                have tq_269 := mi_row hr_267 3 rfl
                have bv_266 := wf_free v_266
                have tq_270 := mi_row hr_267 4 rfl
                have bv_231 := wf_free v_231
                have tq_271 := mi_row hr_267 5 rfl
                have bv_232 := wf_free v_232
                have tq_272 := mi_row hr_267 14 rfl
                have hTR := hTR.kp hG Tu kp_263 fk_264 (by decide) (fun q => by omega)
                have br_259 := wf_free r_259
                refine lv_goto (tgt := 79) G0.1 G0.2.1 dX12_sum_75 (by decide) ?_
                refine lv_istore_n (lv' := [(1, .int r_259), (0, .ref u)]) G0.1 G0.2.1 dX12_sum_79 rfl hl (by decide) rfl (fun ls hl => ?_)
                refine lv_goto (tgt := 21) G0.1 G0.2.1 dX12_sum_80 (by decide) ?_
                exact ih_21 ((mi f u 2 - mi f_256 u 3).toNat) (by omega) r_259 L_255 f_256 _ _ ls rfl hWF hKP hFK hTR (by first | omega | (intros; omega)) (by first | omega | (intros; omega)) (by first | omega | (intros; omega)) (by first | omega | (intros; omega)) hw (lv_sub hl [0, 1] rfl)
            refine lv_icmp_ne (tgt := 58) G0.1 G0.2.1 dX12_sum_51 (by decide) (fun c_273 => ?_) (fun c_273 => ?_)
            · skip
              have tc_273 := ti_ne c_273
              refine lv_iconst (v := 3) G0.1 G0.2.1 dX12_sum_58 (by decide) ?_
              exact jn_59 3 _ _ ls ⟨by omega, by omega⟩ hw (lv_sub hl [0, 1] rfl)
            · skip
              have tc_273 := ti_eq c_273
              refine lv_iconst (v := 2) G0.1 G0.2.1 dX12_sum_54 (by decide) ?_
              refine lv_goto (tgt := 59) G0.1 G0.2.1 dX12_sum_55 (by decide) ?_
              exact jn_59 2 _ _ ls ⟨by omega, by omega⟩ hw (lv_sub hl [0, 1] rfl)
    exact lo_21 _ (-1) L_41 f_42 _ _ ls rfl hWF hKP hFK hTR (by first | omega | (intros; omega)) (by first | omega | (intros; omega)) (by first | omega | (intros; omega)) (by first | omega | (intros; omega)) hw (lv_sub hl [0, 1] rfl)
  · skip
    have tc_60 := ti_eq c_60
    replace en_47 := en_47 (by omega)
    refine lv_aload_n G0.1 G0.2.1 dX12_sum_12 rfl (lv_at hl 0 rfl) ?_
    refine py_calli hw (va_runV (As := []) (rest := []) G0 (c_X12_look l E G L_41 f_42 H_43.size u hG hWF Tu (show 0 ≤ mi f_42 u 3 ∧ mi f_42 u 3 ≤ mi f_42 u 2 by omega)) (cwV 0 G0.2.2.2.2 g_X12_sum_X12_look_146 rfl rfl rfl (by decide +kernel) ⟨(show 1 + 1 ≤ fr + 1 by omega), (show 8 + (1 + 11) + 20 ≤ lo + 60 by omega)⟩) (py_preV hw (C := RX12) (T := TX12) (N := 54) rfl hr_54) rfl rfl hl.1 rfl (lv_room (Nat.le_of_ble_eq_true rfl)) dX12_sum_13 ⟨(Nat.le_of_ble_eq_true rfl), (Nat.le_of_ble_eq_true rfl)⟩) (fun r_278 L_274 f_275 H_276 locs hp_277 hw => ?_)
    obtain ⟨en_279, en_280, en_281, hWF, kp_282, fk_283⟩ := hp_277
    have cq_284 := cdv_k hG Tu kp_282 fk_283 (by decide)
    have hFK := hFK.trans fk_283 (by decide)
    have hKP := hKP.trans kp_282 (by decide) (by decide)
    obtain ⟨v_285, hr_286⟩ := fk_3 hWF Tu fk_283 hr_54
    have tq_287 := mi_row hr_286 2 rfl
    have tq_288 := mi_row hr_286 3 rfl
    have bv_285 := wf_free v_285
    have tq_289 := mi_row hr_286 4 rfl
    have bv_52 := wf_free v_52
    have tq_290 := mi_row hr_286 5 rfl
    have bv_53 := wf_free v_53
    have tq_291 := mi_row hr_286 14 rfl
    have hTR := hTR.kp hG Tu kp_282 fk_283 (by decide) (fun q => by omega)
    have br_278 := wf_free r_278
    refine lv_goto (tgt := 20) G0.1 G0.2.1 dX12_sum_16 (by decide) ?_
    refine lv_istore_n (lv' := [(1, .int r_278), (0, .ref u)]) G0.1 G0.2.1 dX12_sum_20 rfl hl (by decide) rfl (fun ls hl => ?_)
    have lo_21 : ∀ n_21 : Nat, ∀ (v_292 : Int32) (L_j21 : List Nat) (f_j21 : py_F) (H_j21 : Heap) (locs : List Loc) (ls : Array Slot), (mi f u 2 - mi f_j21 u 3).toNat = n_21 → WF E G L_j21 f_j21 → KP G [41, 42, 43, 13] false f f_j21 → FK [3, 4, 5] f f_j21 u → TR f f_j21 G u (15 - 2 * wb) 0 1 → (mi f u 3 ≤ mi f_j21 u 3 ∧ cdv f_j21 G u - cdv f G u ≤ mi f_j21 u 3 - mi f u 3 ∧ mi f_j21 u 3 ≤ 167 - mi f u 5) → (mi f_j21 u 4 = -1 → mi f_j21 u 5 = mi f u 5 ∧ mi f_j21 u 3 ≤ mi f u 2) → (v_292.toInt ≠ -1 → mi f_j21 u 4 = -1 ∧ mi f_j21 u 3 < mi f u 2) → (mi f_j21 u 2 = mi f u 2) → py_W E (va_A (va_pl L f) s.heap.size) s L_j21 f_j21 H_j21 locs → lv_has ls 2 [(1, .int v_292), (0, .ref u)] → W p l e (headSpec w_X12_sum ({ frames := fr + 1, cells := 0, slots := 0, locals := lo + 60 })).room s m ([.ref u] : List Value).toArray below meth c H_j21 locs 0 0 (MQ below (py_Qv E L f s.heap.size (fun L1 f1 => (mi f u 3 ≤ mi f1 u 3 ∧ cdv f1 G u - cdv f G u ≤ mi f1 u 3 - mi f u 3 ∧ mi f1 u 3 ≤ 167 - mi f u 5) ∧ (mi f1 u 4 = -1 → mi f1 u 5 = mi f u 5 ∧ mi f1 u 3 ≤ mi f u 2) ∧ (TR f f1 G u (15 - 2 * wb) 0 1) ∧ WF E G L1 f1 ∧ KP G [41, 42, 43, 13] false f f1 ∧ FK [3, 4, 5] f f1 u)) ([.ref u] : List Value).toArray s 0 0 (va_A (va_pl L f) s.heap.size)) (F0 m 21 ls []) := by
      intro n_21
      induction n_21 using Nat.strongRecOn with
      | _ n_21 ih_21 =>
        intro v_292 L_j21 f_j21 H_j21 locs ls hn_21 hWF hKP hFK hTR iv0 iv1 iv2 iv3 hw hl
        refine lv_iload_n G0.1 G0.2.1 dX12_sum_21 rfl (lv_at hl 0 rfl) ?_
        refine lv_bipush (v := 43) G0.1 G0.2.1 dX12_sum_22 (by decide) ?_
        refine lv_icmp_eq (tgt := 33) G0.1 G0.2.1 dX12_sum_24 (by decide) (fun c_293 => ?_) (fun c_293 => ?_)
        · skip
          have tc_293 := ti_eq c_293
          replace iv2 := iv2 (by omega)
          refine lv_aload_n G0.1 G0.2.1 dX12_sum_33 rfl (lv_at hl 1 rfl) ?_
          refine lv_dup G0.1 G0.2.1 dX12_sum_34 rfl ?_
          obtain ⟨v_294, v_295, v_296, v_297, v_298, v_299, v_300, v_301, v_302, v_303, v_304, v_305, y_306, v_307, v_308, v_309, v_310, v_311, y_312, v_313, y_314, v_315, hr_328, b_316, b_317, b_318, b_319, b_320, b_321, b_322, b_323, b_324, b_325, b_326, b_327⟩ := wg_12 hWF Tu
          have tq_329 := mi_row hr_328 2 rfl
          have tq_330 := mi_row hr_328 3 rfl
          have bv_296 := wf_free v_296
          have tq_331 := mi_row hr_328 4 rfl
          have bv_297 := wf_free v_297
          have tq_332 := mi_row hr_328 5 rfl
          have bv_298 := wf_free v_298
          have tq_333 := mi_row hr_328 14 rfl
          refine py_get (C := RX12) (T := TX12) (N := 54) (k := 3) (v := .int v_296) G0 hw in_X12_sum_X12 rfl hr_328 (by decide) (by decide +kernel) rfl dX12_sum_35 ?_
          refine lv_iconst (v := 1) G0.1 G0.2.1 dX12_sum_38 (by decide) ?_
          refine lv_iadd G0.1 G0.2.1 dX12_sum_39 ?_
          refine lv_topi (fun x_334 ex_334 => ?_)
          first | have tx_334 := ti_add ex_334 (by omega -splitDisjunctions) (by omega -splitDisjunctions) | skip
          refine py_put (C := RX12) (T := TX12) (N := 54) (k := 3) (v := .int x_334) (fs' := [.int v_294, .ref (G.2 u 1), .int v_295, .int x_334, .int v_297, .int v_298, .ref (G.2 u 6), .ref (G.2 u 7), .ref (G.2 u 8), .ref (G.2 u 9), .ref (G.2 u 10), .ref (G.2 u 11), .ref (G.2 u 12), .int v_299, .int v_300, .ref (G.2 u 15), .ref (G.2 u 16), .ref (G.2 u 17), .ref (G.2 u 18), .int v_301, .int v_302, .ref (G.2 u 21), .ref (G.2 u 22), .ref (G.2 u 23), .int v_303, .int v_304, .ref (G.2 u 26), .ref (G.2 u 27), .ref (G.2 u 28), .int v_305, .long y_306, .int v_307, .int v_308, .int v_309, .int v_310, .ref (G.2 u 35), .ref (G.2 u 36), .ref (G.2 u 37), .ref (G.2 u 38), .ref (G.2 u 39), .ref (G.2 u 40), .ref (G.2 u 41), .ref (G.2 u 42), .int v_311, .ref (G.2 u 44), .ref (G.2 u 45), .ref (G.2 u 46), .ref (G.2 u 47), .long y_312, .ref (G.2 u 49), .ref (G.2 u 50), .int v_313, .long y_314, .int v_315]) (ty0 := tyX12) G0 hw tyX12_ok nmX12 in_X12_sum_X12 rfl hr_328 (by decide) (by decide +kernel) rfl rfl rfl rfl (Nat.le_of_ble_eq_true rfl) rfl dX12_sum_40 (fun f_335 H_336 locs h_337 x_338 hw => ?_)
          have hFK := hFK.put hr_328 h_337 3 (by decide) rfl
          have cq_339 := cdv_own (f1 := f_j21) (f2 := f_335) hG hWF Tu x_338 (by have z1 := mi_row hr_328 14 rfl; have z2 := mi_row h_337 14 rfl; omega)
          have hTR := hTR.own hG hWF Tu x_338 (by have z1 := mi_row hr_328 14 rfl; have z2 := mi_row h_337 14 rfl; omega) (by intro q; have z1 := mi_row hr_328 4 rfl; have z2 := mi_row h_337 4 rfl; omega)
          have hKP := hKP.upd hWF x_338 Tu (Or.inl (by decide))
          have hWF := wf_upd hWF h_337 x_338 (by rw [Tu]; exact ⟨v_294, v_295, x_334, v_297, v_298, v_299, v_300, v_301, v_302, v_303, v_304, v_305, y_306, v_307, v_308, v_309, v_310, v_311, y_312, v_313, y_314, v_315, rfl, ⟨by omega, by omega⟩, ⟨by omega, by omega⟩, ⟨by omega, by omega⟩, ⟨by omega, by omega⟩, ⟨by omega, by omega⟩, ⟨by omega, by omega⟩, ⟨by omega, by omega⟩, ⟨by omega, by omega⟩, ⟨by omega, by omega⟩, ⟨by omega, by omega⟩, ⟨by omega, by omega⟩, ⟨by omega, by omega⟩⟩)
          have tq_340 := mi_row h_337 2 rfl
          have tq_341 := mi_row h_337 3 rfl
          have bx_334 := wf_free x_334
          have tq_342 := mi_row h_337 4 rfl
          have bv_297 := wf_free v_297
          have tq_343 := mi_row h_337 5 rfl
          have bv_298 := wf_free v_298
          have tq_344 := mi_row h_337 14 rfl
          refine lv_aload_n G0.1 G0.2.1 dX12_sum_43 rfl (lv_at hl 1 rfl) ?_
          refine py_callv hw (va_runV (As := []) (rest := []) G0 (ih_term L_j21 f_335 H_336.size u hWF Tu (show mi f_335 u 4 = -1 ∧ wb ≤ mi f_335 u 5 ∧ mi f_335 u 5 ≤ 6 ∧ 0 ≤ mi f_335 u 3 ∧ mi f_335 u 3 ≤ mi f_335 u 2 ∧ cdv f_335 G u ≤ mi f_335 u 3 by omega)) (cwV 0 G0.2.2.2.2 g_X12_sum_X12_term_177 rfl rfl rfl (by decide +kernel) ⟨(show f_term + 1 ≤ fr + 1 by omega), (show 8 + (2 + 11) + l_term ≤ lo + 60 by omega)⟩) (py_preV hw (C := RX12) (T := TX12) (N := 54) rfl h_337) rfl rfl hl.1 rfl (lv_room (Nat.le_of_ble_eq_true rfl)) dX12_sum_44 ⟨(Nat.le_of_ble_eq_true rfl), (Nat.le_of_ble_eq_true rfl)⟩) (fun L_345 f_346 H_347 locs hp_348 hw => ?_)
          obtain ⟨en_350, en_351, en_352, hWF, kp_353, fk_354⟩ := hp_348
          have hFK := hFK.trans fk_354 (by decide)
          have hKP := hKP.trans kp_353 (by decide) (by decide)
          obtain ⟨v_355, v_356, v_357, hr_358⟩ := fk_3_4_5 hWF Tu fk_354 h_337
          have tq_359 := mi_row hr_358 2 rfl
          have tq_360 := mi_row hr_358 3 rfl
          have bv_355 := wf_free v_355
          have tq_361 := mi_row hr_358 4 rfl
          have bv_356 := wf_free v_356
          have tq_362 := mi_row hr_358 5 rfl
          have bv_357 := wf_free v_357
          have tq_363 := mi_row hr_358 14 rfl
          have hTR : TR f f_346 G u (15 - 2 * wb) 0 2 := hTR.trans (en_352.lift (b := 1) (by omega) (by omega) (by omega) (by omega)) (fun q => by omega)
          refine lv_aload_n G0.1 G0.2.1 dX12_sum_47 rfl (lv_at hl 1 rfl) ?_
          refine lv_iload_n G0.1 G0.2.1 dX12_sum_48 rfl (lv_at hl 0 rfl) ?_
          refine lv_bipush (v := 43) G0.1 G0.2.1 dX12_sum_49 (by decide) ?_
          have jn_59 : ∀ (v_364 : Int32) (H_j59 : Heap) (locs : List Loc) (ls : Array Slot), (2 ≤ v_364.toInt ∧ v_364.toInt ≤ 3) → py_W E (va_A (va_pl L f) s.heap.size) s L_345 f_346 H_j59 locs → lv_has ls 2 [(1, .int v_292), (0, .ref u)] → W p l e (headSpec w_X12_sum ({ frames := fr + 1, cells := 0, slots := 0, locals := lo + 60 })).room s m ([.ref u] : List Value).toArray below meth c H_j59 locs 0 0 (MQ below (py_Qv E L f s.heap.size (fun L1 f1 => (mi f u 3 ≤ mi f1 u 3 ∧ cdv f1 G u - cdv f G u ≤ mi f1 u 3 - mi f u 3 ∧ mi f1 u 3 ≤ 167 - mi f u 5) ∧ (mi f1 u 4 = -1 → mi f1 u 5 = mi f u 5 ∧ mi f1 u 3 ≤ mi f u 2) ∧ (TR f f1 G u (15 - 2 * wb) 0 1) ∧ WF E G L1 f1 ∧ KP G [41, 42, 43, 13] false f f1 ∧ FK [3, 4, 5] f f1 u)) ([.ref u] : List Value).toArray s 0 0 (va_A (va_pl L f) s.heap.size)) (F0 m 59 ls [.int v_364, .ref u]) := by
            intro v_364 H_j59 locs ls bv_364 hw hl
            refine lv_iconst (v := 0) G0.1 G0.2.1 dX12_sum_59 (by decide) ?_
            refine py_callv hw (va_runV (As := [.int v_364, .int 0]) (rest := []) G0 (c_X12_put l E G L_345 f_346 H_j59.size u v_364 0 hG hWF Tu (show cdv f_346 G u ≤ 339 by omega)) (cwV 2 G0.2.2.2.2 g_X12_sum_X12_put_156 rfl rfl rfl (by decide +kernel) ⟨(show 0 + 1 ≤ fr + 1 by omega), (show 8 + (3 + 11) + 0 ≤ lo + 60 by omega)⟩) (py_preV hw (C := RX12) (T := TX12) (N := 54) rfl hr_358) rfl rfl hl.1 rfl (lv_room (Nat.le_of_ble_eq_true rfl)) dX12_sum_60 ⟨(Nat.le_of_ble_eq_true rfl), (Nat.le_of_ble_eq_true rfl)⟩) (fun L_365 f_366 H_367 locs hp_368 hw => ?_)
            obtain ⟨en_370, en_371, hWF, kp_372, fk_373⟩ := hp_368
            have en_370 : PT f_346 f_366 G u v_364 (0 : Int32) := en_370
            have hFK := hFK.trans fk_373 (by decide)
            have hKP := hKP.trans kp_372 (by decide) (by decide)
            have hr_358 := kp_at kp_372 hWF Tu (by decide) (by decide) (by decide) hr_358
            have tq_374 := mi_row hr_358 2 rfl
            have tq_375 := mi_row hr_358 3 rfl
            have bv_355 := wf_free v_355
            have tq_376 := mi_row hr_358 4 rfl
            have bv_356 := wf_free v_356
            have tq_377 := mi_row hr_358 5 rfl
            have bv_357 := wf_free v_357
            have tq_378 := mi_row hr_358 14 rfl
            have hTR : TR f f_366 G u (15 - 2 * wb) 0 1 := hTR.trans (en_370.tr (by omega)) (fun q => by omega)
            refine lv_aload_n G0.1 G0.2.1 dX12_sum_63 rfl (lv_at hl 1 rfl) ?_
            refine py_get (C := RX12) (T := TX12) (N := 54) (k := 4) (v := .int v_356) G0 hw in_X12_sum_X12 rfl hr_358 (by decide) (by decide +kernel) rfl dX12_sum_64 ?_
            refine lv_iconst (v := (-1)) G0.1 G0.2.1 dX12_sum_67 (by decide) ?_
            refine lv_icmp_ne (tgt := 78) G0.1 G0.2.1 dX12_sum_68 (by decide) (fun c_379 => ?_) (fun c_379 => ?_)
            · skip
              have tc_379 := ti_ne c_379
              clear en_351
              refine lv_iconst (v := (-1)) G0.1 G0.2.1 dX12_sum_78 (by decide) ?_
              refine lv_istore_n (lv' := [(1, .int (-1)), (0, .ref u)]) G0.1 G0.2.1 dX12_sum_79 rfl hl (by decide) rfl (fun ls hl => ?_)
              refine lv_goto (tgt := 21) G0.1 G0.2.1 dX12_sum_80 (by decide) ?_
              exact ih_21 ((mi f u 2 - mi f_366 u 3).toNat) (by omega) (-1) L_365 f_366 _ _ ls rfl hWF hKP hFK hTR (by first | omega | (intros; omega)) (by first | omega | (intros; omega)) (by first | omega | (intros; omega)) (by first | omega | (intros; omega)) hw (lv_sub hl [0, 1] rfl)
            · skip
              have tc_379 := ti_eq c_379
              replace en_351 := en_351 (by omega)
              refine lv_aload_n G0.1 G0.2.1 dX12_sum_71 rfl (lv_at hl 1 rfl) ?_
              refine py_calli hw (va_runV (As := []) (rest := []) G0 (c_X12_look l E G L_365 f_366 H_367.size u hG hWF Tu (show 0 ≤ mi f_366 u 3 ∧ mi f_366 u 3 ≤ mi f_366 u 2 by omega)) (cwV 0 G0.2.2.2.2 g_X12_sum_X12_look_146 rfl rfl rfl (by decide +kernel) ⟨(show 1 + 1 ≤ fr + 1 by omega), (show 8 + (1 + 11) + 20 ≤ lo + 60 by omega)⟩) (py_preV hw (C := RX12) (T := TX12) (N := 54) rfl hr_358) rfl rfl hl.1 rfl (lv_room (Nat.le_of_ble_eq_true rfl)) dX12_sum_72 ⟨(Nat.le_of_ble_eq_true rfl), (Nat.le_of_ble_eq_true rfl)⟩) (fun r_384 L_380 f_381 H_382 locs hp_383 hw => ?_)
              obtain ⟨en_385, en_386, en_387, hWF, kp_388, fk_389⟩ := hp_383
              have cq_390 := cdv_k hG Tu kp_388 fk_389 (by decide)
              have hFK := hFK.trans fk_389 (by decide)
              have hKP := hKP.trans kp_388 (by decide) (by decide)
              obtain ⟨v_391, hr_392⟩ := fk_3 hWF Tu fk_389 hr_358
              have tq_393 := mi_row hr_392 2 rfl
              have tq_394 := mi_row hr_392 3 rfl
              have bv_391 := wf_free v_391
              have tq_395 := mi_row hr_392 4 rfl
              have bv_356 := wf_free v_356
              have tq_396 := mi_row hr_392 5 rfl
              have bv_357 := wf_free v_357
              have tq_397 := mi_row hr_392 14 rfl
              have hTR := hTR.kp hG Tu kp_388 fk_389 (by decide) (fun q => by omega)
              have br_384 := wf_free r_384
              refine lv_goto (tgt := 79) G0.1 G0.2.1 dX12_sum_75 (by decide) ?_
              refine lv_istore_n (lv' := [(1, .int r_384), (0, .ref u)]) G0.1 G0.2.1 dX12_sum_79 rfl hl (by decide) rfl (fun ls hl => ?_)
              refine lv_goto (tgt := 21) G0.1 G0.2.1 dX12_sum_80 (by decide) ?_
              exact ih_21 ((mi f u 2 - mi f_381 u 3).toNat) (by omega) r_384 L_380 f_381 _ _ ls rfl hWF hKP hFK hTR (by first | omega | (intros; omega)) (by first | omega | (intros; omega)) (by first | omega | (intros; omega)) (by first | omega | (intros; omega)) hw (lv_sub hl [0, 1] rfl)
          refine lv_icmp_ne (tgt := 58) G0.1 G0.2.1 dX12_sum_51 (by decide) (fun c_398 => ?_) (fun c_398 => ?_)
          · skip
            have tc_398 := ti_ne c_398
            refine lv_iconst (v := 3) G0.1 G0.2.1 dX12_sum_58 (by decide) ?_
            exact jn_59 3 _ _ ls ⟨by omega, by omega⟩ hw (lv_sub hl [0, 1] rfl)
          · skip
            have tc_398 := ti_eq c_398
            refine lv_iconst (v := 2) G0.1 G0.2.1 dX12_sum_54 (by decide) ?_
            refine lv_goto (tgt := 59) G0.1 G0.2.1 dX12_sum_55 (by decide) ?_
            exact jn_59 2 _ _ ls ⟨by omega, by omega⟩ hw (lv_sub hl [0, 1] rfl)
        · skip
          have tc_293 := ti_ne c_293
          refine lv_iload_n G0.1 G0.2.1 dX12_sum_27 rfl (lv_at hl 0 rfl) ?_
          refine lv_bipush (v := 45) G0.1 G0.2.1 dX12_sum_28 (by decide) ?_
          refine lv_icmp_ne (tgt := 83) G0.1 G0.2.1 dX12_sum_30 (by decide) (fun c_399 => ?_) (fun c_399 => ?_)
          · skip
            have tc_399 := ti_ne c_399
            exact py_vret G0 hr hlk hw ⟨(by first | omega | (intro q; omega)), (by first | omega | (intro q; omega)), hTR, hWF, hKP, hFK⟩ dX12_sum_83
          · skip
            have tc_399 := ti_eq c_399
            replace iv2 := iv2 (by omega)
            refine lv_aload_n G0.1 G0.2.1 dX12_sum_33 rfl (lv_at hl 1 rfl) ?_
            refine lv_dup G0.1 G0.2.1 dX12_sum_34 rfl ?_
            obtain ⟨v_400, v_401, v_402, v_403, v_404, v_405, v_406, v_407, v_408, v_409, v_410, v_411, y_412, v_413, v_414, v_415, v_416, v_417, y_418, v_419, y_420, v_421, hr_434, b_422, b_423, b_424, b_425, b_426, b_427, b_428, b_429, b_430, b_431, b_432, b_433⟩ := wg_12 hWF Tu
            have tq_435 := mi_row hr_434 2 rfl
            have tq_436 := mi_row hr_434 3 rfl
            have bv_402 := wf_free v_402
            have tq_437 := mi_row hr_434 4 rfl
            have bv_403 := wf_free v_403
            have tq_438 := mi_row hr_434 5 rfl
            have bv_404 := wf_free v_404
            have tq_439 := mi_row hr_434 14 rfl
            refine py_get (C := RX12) (T := TX12) (N := 54) (k := 3) (v := .int v_402) G0 hw in_X12_sum_X12 rfl hr_434 (by decide) (by decide +kernel) rfl dX12_sum_35 ?_
            refine lv_iconst (v := 1) G0.1 G0.2.1 dX12_sum_38 (by decide) ?_
            refine lv_iadd G0.1 G0.2.1 dX12_sum_39 ?_
            refine lv_topi (fun x_440 ex_440 => ?_)
            first | have tx_440 := ti_add ex_440 (by omega -splitDisjunctions) (by omega -splitDisjunctions) | skip
            refine py_put (C := RX12) (T := TX12) (N := 54) (k := 3) (v := .int x_440) (fs' := [.int v_400, .ref (G.2 u 1), .int v_401, .int x_440, .int v_403, .int v_404, .ref (G.2 u 6), .ref (G.2 u 7), .ref (G.2 u 8), .ref (G.2 u 9), .ref (G.2 u 10), .ref (G.2 u 11), .ref (G.2 u 12), .int v_405, .int v_406, .ref (G.2 u 15), .ref (G.2 u 16), .ref (G.2 u 17), .ref (G.2 u 18), .int v_407, .int v_408, .ref (G.2 u 21), .ref (G.2 u 22), .ref (G.2 u 23), .int v_409, .int v_410, .ref (G.2 u 26), .ref (G.2 u 27), .ref (G.2 u 28), .int v_411, .long y_412, .int v_413, .int v_414, .int v_415, .int v_416, .ref (G.2 u 35), .ref (G.2 u 36), .ref (G.2 u 37), .ref (G.2 u 38), .ref (G.2 u 39), .ref (G.2 u 40), .ref (G.2 u 41), .ref (G.2 u 42), .int v_417, .ref (G.2 u 44), .ref (G.2 u 45), .ref (G.2 u 46), .ref (G.2 u 47), .long y_418, .ref (G.2 u 49), .ref (G.2 u 50), .int v_419, .long y_420, .int v_421]) (ty0 := tyX12) G0 hw tyX12_ok nmX12 in_X12_sum_X12 rfl hr_434 (by decide) (by decide +kernel) rfl rfl rfl rfl (Nat.le_of_ble_eq_true rfl) rfl dX12_sum_40 (fun f_441 H_442 locs h_443 x_444 hw => ?_)
            have hFK := hFK.put hr_434 h_443 3 (by decide) rfl
            have cq_445 := cdv_own (f1 := f_j21) (f2 := f_441) hG hWF Tu x_444 (by have z1 := mi_row hr_434 14 rfl; have z2 := mi_row h_443 14 rfl; omega)
            have hTR := hTR.own hG hWF Tu x_444 (by have z1 := mi_row hr_434 14 rfl; have z2 := mi_row h_443 14 rfl; omega) (by intro q; have z1 := mi_row hr_434 4 rfl; have z2 := mi_row h_443 4 rfl; omega)
            have hKP := hKP.upd hWF x_444 Tu (Or.inl (by decide))
            have hWF := wf_upd hWF h_443 x_444 (by rw [Tu]; exact ⟨v_400, v_401, x_440, v_403, v_404, v_405, v_406, v_407, v_408, v_409, v_410, v_411, y_412, v_413, v_414, v_415, v_416, v_417, y_418, v_419, y_420, v_421, rfl, ⟨by omega, by omega⟩, ⟨by omega, by omega⟩, ⟨by omega, by omega⟩, ⟨by omega, by omega⟩, ⟨by omega, by omega⟩, ⟨by omega, by omega⟩, ⟨by omega, by omega⟩, ⟨by omega, by omega⟩, ⟨by omega, by omega⟩, ⟨by omega, by omega⟩, ⟨by omega, by omega⟩, ⟨by omega, by omega⟩⟩)
            have tq_446 := mi_row h_443 2 rfl
            have tq_447 := mi_row h_443 3 rfl
            have bx_440 := wf_free x_440
            have tq_448 := mi_row h_443 4 rfl
            have bv_403 := wf_free v_403
            have tq_449 := mi_row h_443 5 rfl
            have bv_404 := wf_free v_404
            have tq_450 := mi_row h_443 14 rfl
            refine lv_aload_n G0.1 G0.2.1 dX12_sum_43 rfl (lv_at hl 1 rfl) ?_
            refine py_callv hw (va_runV (As := []) (rest := []) G0 (ih_term L_j21 f_441 H_442.size u hWF Tu (show mi f_441 u 4 = -1 ∧ wb ≤ mi f_441 u 5 ∧ mi f_441 u 5 ≤ 6 ∧ 0 ≤ mi f_441 u 3 ∧ mi f_441 u 3 ≤ mi f_441 u 2 ∧ cdv f_441 G u ≤ mi f_441 u 3 by omega)) (cwV 0 G0.2.2.2.2 g_X12_sum_X12_term_177 rfl rfl rfl (by decide +kernel) ⟨(show f_term + 1 ≤ fr + 1 by omega), (show 8 + (2 + 11) + l_term ≤ lo + 60 by omega)⟩) (py_preV hw (C := RX12) (T := TX12) (N := 54) rfl h_443) rfl rfl hl.1 rfl (lv_room (Nat.le_of_ble_eq_true rfl)) dX12_sum_44 ⟨(Nat.le_of_ble_eq_true rfl), (Nat.le_of_ble_eq_true rfl)⟩) (fun L_451 f_452 H_453 locs hp_454 hw => ?_)
            obtain ⟨en_456, en_457, en_458, hWF, kp_459, fk_460⟩ := hp_454
            have hFK := hFK.trans fk_460 (by decide)
            have hKP := hKP.trans kp_459 (by decide) (by decide)
            obtain ⟨v_461, v_462, v_463, hr_464⟩ := fk_3_4_5 hWF Tu fk_460 h_443
            have tq_465 := mi_row hr_464 2 rfl
            have tq_466 := mi_row hr_464 3 rfl
            have bv_461 := wf_free v_461
            have tq_467 := mi_row hr_464 4 rfl
            have bv_462 := wf_free v_462
            have tq_468 := mi_row hr_464 5 rfl
            have bv_463 := wf_free v_463
            have tq_469 := mi_row hr_464 14 rfl
            have hTR : TR f f_452 G u (15 - 2 * wb) 0 2 := hTR.trans (en_458.lift (b := 1) (by omega) (by omega) (by omega) (by omega)) (fun q => by omega)
            refine lv_aload_n G0.1 G0.2.1 dX12_sum_47 rfl (lv_at hl 1 rfl) ?_
            refine lv_iload_n G0.1 G0.2.1 dX12_sum_48 rfl (lv_at hl 0 rfl) ?_
            refine lv_bipush (v := 43) G0.1 G0.2.1 dX12_sum_49 (by decide) ?_
            have jn_59 : ∀ (v_470 : Int32) (H_j59 : Heap) (locs : List Loc) (ls : Array Slot), (2 ≤ v_470.toInt ∧ v_470.toInt ≤ 3) → py_W E (va_A (va_pl L f) s.heap.size) s L_451 f_452 H_j59 locs → lv_has ls 2 [(1, .int v_292), (0, .ref u)] → W p l e (headSpec w_X12_sum ({ frames := fr + 1, cells := 0, slots := 0, locals := lo + 60 })).room s m ([.ref u] : List Value).toArray below meth c H_j59 locs 0 0 (MQ below (py_Qv E L f s.heap.size (fun L1 f1 => (mi f u 3 ≤ mi f1 u 3 ∧ cdv f1 G u - cdv f G u ≤ mi f1 u 3 - mi f u 3 ∧ mi f1 u 3 ≤ 167 - mi f u 5) ∧ (mi f1 u 4 = -1 → mi f1 u 5 = mi f u 5 ∧ mi f1 u 3 ≤ mi f u 2) ∧ (TR f f1 G u (15 - 2 * wb) 0 1) ∧ WF E G L1 f1 ∧ KP G [41, 42, 43, 13] false f f1 ∧ FK [3, 4, 5] f f1 u)) ([.ref u] : List Value).toArray s 0 0 (va_A (va_pl L f) s.heap.size)) (F0 m 59 ls [.int v_470, .ref u]) := by
              intro v_470 H_j59 locs ls bv_470 hw hl
              refine lv_iconst (v := 0) G0.1 G0.2.1 dX12_sum_59 (by decide) ?_
              refine py_callv hw (va_runV (As := [.int v_470, .int 0]) (rest := []) G0 (c_X12_put l E G L_451 f_452 H_j59.size u v_470 0 hG hWF Tu (show cdv f_452 G u ≤ 339 by omega)) (cwV 2 G0.2.2.2.2 g_X12_sum_X12_put_156 rfl rfl rfl (by decide +kernel) ⟨(show 0 + 1 ≤ fr + 1 by omega), (show 8 + (3 + 11) + 0 ≤ lo + 60 by omega)⟩) (py_preV hw (C := RX12) (T := TX12) (N := 54) rfl hr_464) rfl rfl hl.1 rfl (lv_room (Nat.le_of_ble_eq_true rfl)) dX12_sum_60 ⟨(Nat.le_of_ble_eq_true rfl), (Nat.le_of_ble_eq_true rfl)⟩) (fun L_471 f_472 H_473 locs hp_474 hw => ?_)
              obtain ⟨en_476, en_477, hWF, kp_478, fk_479⟩ := hp_474
              have en_476 : PT f_452 f_472 G u v_470 (0 : Int32) := en_476
              have hFK := hFK.trans fk_479 (by decide)
              have hKP := hKP.trans kp_478 (by decide) (by decide)
              have hr_464 := kp_at kp_478 hWF Tu (by decide) (by decide) (by decide) hr_464
              have tq_480 := mi_row hr_464 2 rfl
              have tq_481 := mi_row hr_464 3 rfl
              have bv_461 := wf_free v_461
              have tq_482 := mi_row hr_464 4 rfl
              have bv_462 := wf_free v_462
              have tq_483 := mi_row hr_464 5 rfl
              have bv_463 := wf_free v_463
              have tq_484 := mi_row hr_464 14 rfl
              have hTR : TR f f_472 G u (15 - 2 * wb) 0 1 := hTR.trans (en_476.tr (by omega)) (fun q => by omega)
              refine lv_aload_n G0.1 G0.2.1 dX12_sum_63 rfl (lv_at hl 1 rfl) ?_
              refine py_get (C := RX12) (T := TX12) (N := 54) (k := 4) (v := .int v_462) G0 hw in_X12_sum_X12 rfl hr_464 (by decide) (by decide +kernel) rfl dX12_sum_64 ?_
              refine lv_iconst (v := (-1)) G0.1 G0.2.1 dX12_sum_67 (by decide) ?_
              refine lv_icmp_ne (tgt := 78) G0.1 G0.2.1 dX12_sum_68 (by decide) (fun c_485 => ?_) (fun c_485 => ?_)
              · skip
                have tc_485 := ti_ne c_485
                clear en_457
                refine lv_iconst (v := (-1)) G0.1 G0.2.1 dX12_sum_78 (by decide) ?_
                refine lv_istore_n (lv' := [(1, .int (-1)), (0, .ref u)]) G0.1 G0.2.1 dX12_sum_79 rfl hl (by decide) rfl (fun ls hl => ?_)
                refine lv_goto (tgt := 21) G0.1 G0.2.1 dX12_sum_80 (by decide) ?_
                exact ih_21 ((mi f u 2 - mi f_472 u 3).toNat) (by omega) (-1) L_471 f_472 _ _ ls rfl hWF hKP hFK hTR (by first | omega | (intros; omega)) (by first | omega | (intros; omega)) (by first | omega | (intros; omega)) (by first | omega | (intros; omega)) hw (lv_sub hl [0, 1] rfl)
              · skip
                have tc_485 := ti_eq c_485
                replace en_457 := en_457 (by omega)
                refine lv_aload_n G0.1 G0.2.1 dX12_sum_71 rfl (lv_at hl 1 rfl) ?_
                refine py_calli hw (va_runV (As := []) (rest := []) G0 (c_X12_look l E G L_471 f_472 H_473.size u hG hWF Tu (show 0 ≤ mi f_472 u 3 ∧ mi f_472 u 3 ≤ mi f_472 u 2 by omega)) (cwV 0 G0.2.2.2.2 g_X12_sum_X12_look_146 rfl rfl rfl (by decide +kernel) ⟨(show 1 + 1 ≤ fr + 1 by omega), (show 8 + (1 + 11) + 20 ≤ lo + 60 by omega)⟩) (py_preV hw (C := RX12) (T := TX12) (N := 54) rfl hr_464) rfl rfl hl.1 rfl (lv_room (Nat.le_of_ble_eq_true rfl)) dX12_sum_72 ⟨(Nat.le_of_ble_eq_true rfl), (Nat.le_of_ble_eq_true rfl)⟩) (fun r_490 L_486 f_487 H_488 locs hp_489 hw => ?_)
                obtain ⟨en_491, en_492, en_493, hWF, kp_494, fk_495⟩ := hp_489
                have cq_496 := cdv_k hG Tu kp_494 fk_495 (by decide)
                have hFK := hFK.trans fk_495 (by decide)
                have hKP := hKP.trans kp_494 (by decide) (by decide)
                obtain ⟨v_497, hr_498⟩ := fk_3 hWF Tu fk_495 hr_464
                have tq_499 := mi_row hr_498 2 rfl
                have tq_500 := mi_row hr_498 3 rfl
                have bv_497 := wf_free v_497
                have tq_501 := mi_row hr_498 4 rfl
                have bv_462 := wf_free v_462
                have tq_502 := mi_row hr_498 5 rfl
                have bv_463 := wf_free v_463
                have tq_503 := mi_row hr_498 14 rfl
                have hTR := hTR.kp hG Tu kp_494 fk_495 (by decide) (fun q => by omega)
                have br_490 := wf_free r_490
                refine lv_goto (tgt := 79) G0.1 G0.2.1 dX12_sum_75 (by decide) ?_
                refine lv_istore_n (lv' := [(1, .int r_490), (0, .ref u)]) G0.1 G0.2.1 dX12_sum_79 rfl hl (by decide) rfl (fun ls hl => ?_)
                refine lv_goto (tgt := 21) G0.1 G0.2.1 dX12_sum_80 (by decide) ?_
                exact ih_21 ((mi f u 2 - mi f_487 u 3).toNat) (by omega) r_490 L_486 f_487 _ _ ls rfl hWF hKP hFK hTR (by first | omega | (intros; omega)) (by first | omega | (intros; omega)) (by first | omega | (intros; omega)) (by first | omega | (intros; omega)) hw (lv_sub hl [0, 1] rfl)
            refine lv_icmp_ne (tgt := 58) G0.1 G0.2.1 dX12_sum_51 (by decide) (fun c_504 => ?_) (fun c_504 => ?_)
            · skip
              have tc_504 := ti_ne c_504
              refine lv_iconst (v := 3) G0.1 G0.2.1 dX12_sum_58 (by decide) ?_
              exact jn_59 3 _ _ ls ⟨by omega, by omega⟩ hw (lv_sub hl [0, 1] rfl)
            · skip
              have tc_504 := ti_eq c_504
              refine lv_iconst (v := 2) G0.1 G0.2.1 dX12_sum_54 (by decide) ?_
              refine lv_goto (tgt := 59) G0.1 G0.2.1 dX12_sum_55 (by decide) ?_
              exact jn_59 2 _ _ ls ⟨by omega, by omega⟩ hw (lv_sub hl [0, 1] rfl)
    exact lo_21 _ r_278 L_274 f_275 _ _ ls rfl hWF hKP hFK hTR (by first | omega | (intros; omega)) (by first | omega | (intros; omega)) (by first | omega | (intros; omega)) (by first | omega | (intros; omega)) hw (lv_sub hl [0, 1] rfl)

set_option maxHeartbeats 4000000 in
set_option maxRecDepth 100000 in
theorem q_compare (l : Launch) (E : py_E) (G : wf_G) (hG : GT G) (wb : Int) (hwb : 0 ≤ wb) (fr lo : Nat) (hfr : 10 ≤ fr) (hlo : 300 ≤ lo) (f_sum l_sum : Nat) (x_sum : f_sum ≤ fr) (z_sum : l_sum ≤ lo) (ih_sum : Q_sum l E G wb f_sum l_sum) : Q_compare l E G wb (fr + 1) (lo + 60) := by
  intro L f sz u hWF Tu hp0
  refine Met.ofW (cc := cX12_compare) (maxL := 2) (ret := none) (by decide) rfl ?_
  intro p e s m args below meth c s₁ B hml hv
  obtain ⟨rfl, rfl, hw⟩ := py_start hv
  have G0 : CallFix p m c cX12_compare 2 s _ w_X12_compare RX12 := ⟨B.exec, B.bytes, hml, findClass_of_methodNamed B.named, atoms_spec (ws := w_X12_compare) B.pre⟩
  have hr := B.returns
  have hlk := B.notSynchronized
  have kcm1 : (-1 : Int32).toInt = -1 := rfl
  have kc0 : (0 : Int32).toInt = 0 := rfl
  have kc1 : (1 : Int32).toInt = 1 := rfl
  have kc6 : (6 : Int32).toInt = 6 := rfl
  have kc7 : (7 : Int32).toInt = 7 := rfl
  have kc8 : (8 : Int32).toInt = 8 := rfl
  have kc60 : (60 : Int32).toInt = 60 := rfl
  have kc61 : (61 : Int32).toInt = 61 := rfl
  have hl := lv_entry ([.ref u]) (n := 2) (Nat.le_of_ble_eq_true rfl)
  rw [lg_entry_eq]
  generalize (lg_sl ([.ref u]) ++ List.replicate (2 - (lg_sl ([.ref u])).length) Slot.unset).toArray = ls at hl ⊢
  have hl : lv_has ls 2 [(0, .ref u)] := hl
  have hKP : KP G [41, 42, 43, 13] false f f := KP.refl
  have hFK : FK [3, 4, 5] f f u := FK.refl
  obtain ⟨v_1, v_2, v_3, v_4, v_5, v_6, v_7, v_8, v_9, v_10, v_11, v_12, y_13, v_14, v_15, v_16, v_17, v_18, y_19, v_20, y_21, v_22, hr_35, b_23, b_24, b_25, b_26, b_27, b_28, b_29, b_30, b_31, b_32, b_33, b_34⟩ := wg_12 hWF Tu
  have tq_36 := mi_row hr_35 2 rfl
  have tq_37 := mi_row hr_35 3 rfl
  have bv_3 := wf_free v_3
  have tq_38 := mi_row hr_35 4 rfl
  have bv_4 := wf_free v_4
  have tq_39 := mi_row hr_35 5 rfl
  have bv_5 := wf_free v_5
  have tq_40 := mi_row hr_35 14 rfl
  have hcd := cdv_rng hG hWF Tu (by omega) (by omega)
  have hTR : TR f f G u (16 - 2 * wb) 1 1 := TR.refl (by omega) (by omega)
  refine lv_aload_n G0.1 G0.2.1 dX12_compare_0 rfl (lv_at hl 0 rfl) ?_
  refine py_get (C := RX12) (T := TX12) (N := 54) (k := 4) (v := .int v_4) G0 hw in_X12_compare_X12 rfl hr_35 (by decide) (by decide +kernel) rfl dX12_compare_1 ?_
  refine lv_iconst (v := (-1)) G0.1 G0.2.1 dX12_compare_4 (by decide) ?_
  refine lv_icmp_ne (tgt := 15) G0.1 G0.2.1 dX12_compare_5 (by decide) (fun c_41 => ?_) (fun c_41 => ?_)
  · skip
    have tc_41 := ti_ne c_41
    refine lv_iconst (v := (-1)) G0.1 G0.2.1 dX12_compare_15 (by decide) ?_
    refine lv_istore_n (lv' := [(1, .int (-1)), (0, .ref u)]) G0.1 G0.2.1 dX12_compare_16 rfl hl (by decide) rfl (fun ls hl => ?_)
    refine lv_iload_n G0.1 G0.2.1 dX12_compare_17 rfl (lv_at hl 0 rfl) ?_
    refine py_calli hw (va_runS (As := [.int (-1)]) (rest := []) G0 (c_X12_isSign l E G L f s.heap.size (-1) hG hWF) (va_cwS 1 G0.2.2.2.2 g_X12_compare_X12_isSign_180 rfl rfl rfl (by decide +kernel) ⟨(show 0 + 1 ≤ fr + 1 by omega), (show 8 + (1 + 11) + 0 ≤ lo + 60 by omega)⟩) (py_preS hw) rfl rfl hl.1 rfl (lv_room (Nat.le_of_ble_eq_true rfl)) dX12_compare_18 ⟨(Nat.le_of_ble_eq_true rfl), (Nat.le_of_ble_eq_true rfl)⟩) (fun r_46 L_42 f_43 H_44 locs hp_45 hw => ?_)
    obtain ⟨b_48, en_47, rfl, rfl⟩ := hp_45
    have en_47 : r_46.toInt ≠ 0 → ((-1) : Int) ≠ -1 := en_47
    refine lv_if_ne (tgt := 29) G0.1 G0.2.1 dX12_compare_21 (by decide) (fun c_49 => ?_) (fun c_49 => ?_)
    · skip
      have tc_49 := ti_ne c_49
      replace en_47 := en_47 (by omega)
      refine lv_aload_n G0.1 G0.2.1 dX12_compare_29 rfl (lv_at hl 1 rfl) ?_
      refine lv_dup G0.1 G0.2.1 dX12_compare_30 rfl ?_
      refine py_get (C := RX12) (T := TX12) (N := 54) (k := 3) (v := .int v_3) G0 hw in_X12_compare_X12 rfl hr_35 (by decide) (by decide +kernel) rfl dX12_compare_31 ?_
      refine lv_iconst (v := 1) G0.1 G0.2.1 dX12_compare_34 (by decide) ?_
      refine lv_iadd G0.1 G0.2.1 dX12_compare_35 ?_
      refine lv_topi (fun x_50 ex_50 => ?_)
      first | have tx_50 := ti_add ex_50 (by omega -splitDisjunctions) (by omega -splitDisjunctions) | skip
      refine py_put (C := RX12) (T := TX12) (N := 54) (k := 3) (v := .int x_50) (fs' := [.int v_1, .ref (G.2 u 1), .int v_2, .int x_50, .int v_4, .int v_5, .ref (G.2 u 6), .ref (G.2 u 7), .ref (G.2 u 8), .ref (G.2 u 9), .ref (G.2 u 10), .ref (G.2 u 11), .ref (G.2 u 12), .int v_6, .int v_7, .ref (G.2 u 15), .ref (G.2 u 16), .ref (G.2 u 17), .ref (G.2 u 18), .int v_8, .int v_9, .ref (G.2 u 21), .ref (G.2 u 22), .ref (G.2 u 23), .int v_10, .int v_11, .ref (G.2 u 26), .ref (G.2 u 27), .ref (G.2 u 28), .int v_12, .long y_13, .int v_14, .int v_15, .int v_16, .int v_17, .ref (G.2 u 35), .ref (G.2 u 36), .ref (G.2 u 37), .ref (G.2 u 38), .ref (G.2 u 39), .ref (G.2 u 40), .ref (G.2 u 41), .ref (G.2 u 42), .int v_18, .ref (G.2 u 44), .ref (G.2 u 45), .ref (G.2 u 46), .ref (G.2 u 47), .long y_19, .ref (G.2 u 49), .ref (G.2 u 50), .int v_20, .long y_21, .int v_22]) (ty0 := tyX12) G0 hw tyX12_ok nmX12 in_X12_compare_X12 rfl hr_35 (by decide) (by decide +kernel) rfl rfl rfl rfl (Nat.le_of_ble_eq_true rfl) rfl dX12_compare_36 (fun f_51 H_52 locs h_53 x_54 hw => ?_)
      have hFK := hFK.put hr_35 h_53 3 (by decide) rfl
      have cq_55 := cdv_own (f1 := f) (f2 := f_51) hG hWF Tu x_54 (by have z1 := mi_row hr_35 14 rfl; have z2 := mi_row h_53 14 rfl; omega)
      have hTR := hTR.own hG hWF Tu x_54 (by have z1 := mi_row hr_35 14 rfl; have z2 := mi_row h_53 14 rfl; omega) (by intro q; have z1 := mi_row hr_35 4 rfl; have z2 := mi_row h_53 4 rfl; omega)
      have hKP := hKP.upd hWF x_54 Tu (Or.inl (by decide))
      have hWF := wf_upd hWF h_53 x_54 (by rw [Tu]; exact ⟨v_1, v_2, x_50, v_4, v_5, v_6, v_7, v_8, v_9, v_10, v_11, v_12, y_13, v_14, v_15, v_16, v_17, v_18, y_19, v_20, y_21, v_22, rfl, ⟨by omega, by omega⟩, ⟨by omega, by omega⟩, ⟨by omega, by omega⟩, ⟨by omega, by omega⟩, ⟨by omega, by omega⟩, ⟨by omega, by omega⟩, ⟨by omega, by omega⟩, ⟨by omega, by omega⟩, ⟨by omega, by omega⟩, ⟨by omega, by omega⟩, ⟨by omega, by omega⟩, ⟨by omega, by omega⟩⟩)
      have tq_56 := mi_row h_53 2 rfl
      have tq_57 := mi_row h_53 3 rfl
      have bx_50 := wf_free x_50
      have tq_58 := mi_row h_53 4 rfl
      have bv_4 := wf_free v_4
      have tq_59 := mi_row h_53 5 rfl
      have bv_5 := wf_free v_5
      have tq_60 := mi_row h_53 14 rfl
      refine lv_aload_n G0.1 G0.2.1 dX12_compare_39 rfl (lv_at hl 1 rfl) ?_
      refine py_callv hw (va_runV (As := []) (rest := []) G0 (ih_sum L f_51 H_52.size u hWF Tu (show mi f_51 u 4 = -1 ∧ wb ≤ mi f_51 u 5 ∧ mi f_51 u 5 ≤ 6 ∧ 0 ≤ mi f_51 u 3 ∧ mi f_51 u 3 ≤ mi f_51 u 2 ∧ cdv f_51 G u ≤ mi f_51 u 3 by omega)) (cwV 0 G0.2.2.2.2 g_X12_compare_X12_sum_167 rfl rfl rfl (by decide +kernel) ⟨(show f_sum + 1 ≤ fr + 1 by omega), (show 8 + (2 + 11) + l_sum ≤ lo + 60 by omega)⟩) (py_preV hw (C := RX12) (T := TX12) (N := 54) rfl h_53) rfl rfl hl.1 rfl (lv_room (Nat.le_of_ble_eq_true rfl)) dX12_compare_40 ⟨(Nat.le_of_ble_eq_true rfl), (Nat.le_of_ble_eq_true rfl)⟩) (fun L_61 f_62 H_63 locs hp_64 hw => ?_)
      obtain ⟨en_66, en_67, en_68, hWF, kp_69, fk_70⟩ := hp_64
      have hFK := hFK.trans fk_70 (by decide)
      have hKP := hKP.trans kp_69 (by decide) (by decide)
      obtain ⟨v_71, v_72, v_73, hr_74⟩ := fk_3_4_5 hWF Tu fk_70 h_53
      have tq_75 := mi_row hr_74 2 rfl
      have tq_76 := mi_row hr_74 3 rfl
      have bv_71 := wf_free v_71
      have tq_77 := mi_row hr_74 4 rfl
      have bv_72 := wf_free v_72
      have tq_78 := mi_row hr_74 5 rfl
      have bv_73 := wf_free v_73
      have tq_79 := mi_row hr_74 14 rfl
      have hTR : TR f f_62 G u (16 - 2 * wb) 1 2 := hTR.trans (en_68.lift (b := 1) (by omega) (by omega) (by omega) (by omega)) (fun q => by omega)
      refine lv_aload_n G0.1 G0.2.1 dX12_compare_43 rfl (lv_at hl 1 rfl) ?_
      refine lv_iload_n G0.1 G0.2.1 dX12_compare_44 rfl (lv_at hl 0 rfl) ?_
      refine lv_bipush (v := 61) G0.1 G0.2.1 dX12_compare_45 (by decide) ?_
      refine lv_icmp_ne (tgt := 55) G0.1 G0.2.1 dX12_compare_47 (by decide) (fun c_80 => ?_) (fun c_80 => ?_)
      · skip
        have tc_80 := ti_ne c_80
        refine lv_iload_n G0.1 G0.2.1 dX12_compare_55 rfl (lv_at hl 0 rfl) ?_
        refine lv_bipush (v := 60) G0.1 G0.2.1 dX12_compare_56 (by decide) ?_
        refine lv_icmp_ne (tgt := 66) G0.1 G0.2.1 dX12_compare_58 (by decide) (fun c_81 => ?_) (fun c_81 => ?_)
        · skip
          have tc_81 := ti_ne c_81
          refine lv_bipush (v := 8) G0.1 G0.2.1 dX12_compare_66 (by decide) ?_
          refine lv_iconst (v := 0) G0.1 G0.2.1 dX12_compare_68 (by decide) ?_
          refine py_callv hw (va_runV (As := [.int 8, .int 0]) (rest := []) G0 (c_X12_put l E G L_61 f_62 H_63.size u 8 0 hG hWF Tu (show cdv f_62 G u ≤ 339 by omega)) (cwV 2 G0.2.2.2.2 g_X12_compare_X12_put_156 rfl rfl rfl (by decide +kernel) ⟨(show 0 + 1 ≤ fr + 1 by omega), (show 8 + (3 + 11) + 0 ≤ lo + 60 by omega)⟩) (py_preV hw (C := RX12) (T := TX12) (N := 54) rfl hr_74) rfl rfl hl.1 rfl (lv_room (Nat.le_of_ble_eq_true rfl)) dX12_compare_69 ⟨(Nat.le_of_ble_eq_true rfl), (Nat.le_of_ble_eq_true rfl)⟩) (fun L_82 f_83 H_84 locs hp_85 hw => ?_)
          obtain ⟨en_87, en_88, hWF, kp_89, fk_90⟩ := hp_85
          have en_87 : PT f_62 f_83 G u (8 : Int32) (0 : Int32) := en_87
          have hFK := hFK.trans fk_90 (by decide)
          have hKP := hKP.trans kp_89 (by decide) (by decide)
          have hr_74 := kp_at kp_89 hWF Tu (by decide) (by decide) (by decide) hr_74
          have tq_91 := mi_row hr_74 2 rfl
          have tq_92 := mi_row hr_74 3 rfl
          have bv_71 := wf_free v_71
          have tq_93 := mi_row hr_74 4 rfl
          have bv_72 := wf_free v_72
          have tq_94 := mi_row hr_74 5 rfl
          have bv_73 := wf_free v_73
          have tq_95 := mi_row hr_74 14 rfl
          have hTR : TR f f_83 G u (16 - 2 * wb) 1 1 := hTR.trans (en_87.tr (by omega)) (fun q => by omega)
          exact py_vret G0 hr hlk hw ⟨(by first | omega | (intro q; omega)), (by first | omega | (intro q; omega)), (by first | omega | (intro q; omega)), (by first | omega | (intro q; omega)), hTR, hWF, hKP, hFK⟩ dX12_compare_72
        · skip
          exact absurd c_81 (by decide)
      · skip
        exact absurd c_80 (by decide)
    · skip
      have tc_49 := ti_eq c_49
      clear en_47
      refine lv_aload_n G0.1 G0.2.1 dX12_compare_24 rfl (lv_at hl 1 rfl) ?_
      refine py_callv hw (va_runV (As := []) (rest := []) G0 (c_X12_bad l E G L f H_44.size u hG hWF Tu (show 0 ≤ mi f u 3 by omega)) (cwV 0 G0.2.2.2.2 g_X12_compare_X12_bad_143 rfl rfl rfl (by decide +kernel) ⟨(show 0 + 1 ≤ fr + 1 by omega), (show 8 + (1 + 11) + 0 ≤ lo + 60 by omega)⟩) (py_preV hw (C := RX12) (T := TX12) (N := 54) rfl hr_35) rfl rfl hl.1 rfl (lv_room (Nat.le_of_ble_eq_true rfl)) dX12_compare_25 ⟨(Nat.le_of_ble_eq_true rfl), (Nat.le_of_ble_eq_true rfl)⟩) (fun L_96 f_97 H_98 locs hp_99 hw => ?_)
      obtain ⟨en_101, en_102, hWF, kp_103, fk_104⟩ := hp_99
      have cq_105 := cdv_k hG Tu kp_103 fk_104 (by decide)
      have hFK := hFK.trans fk_104 (by decide)
      have hKP := hKP.trans kp_103 (by decide) (by decide)
      obtain ⟨v_106, hr_107⟩ := fk_4 hWF Tu fk_104 hr_35
      have tq_108 := mi_row hr_107 2 rfl
      have tq_109 := mi_row hr_107 3 rfl
      have bv_3 := wf_free v_3
      have tq_110 := mi_row hr_107 4 rfl
      have bv_106 := wf_free v_106
      have tq_111 := mi_row hr_107 5 rfl
      have bv_5 := wf_free v_5
      have tq_112 := mi_row hr_107 14 rfl
      have hTR := hTR.kp hG Tu kp_103 fk_104 (by decide) (fun q => by omega)
      exact py_vret G0 hr hlk hw ⟨(by first | omega | (intro q; omega)), (by first | omega | (intro q; omega)), (by first | omega | (intro q; omega)), (by first | omega | (intro q; omega)), hTR, hWF, hKP, hFK⟩ dX12_compare_28
  · skip
    have tc_41 := ti_eq c_41
    refine lv_aload_n G0.1 G0.2.1 dX12_compare_8 rfl (lv_at hl 0 rfl) ?_
    refine py_calli hw (va_runV (As := []) (rest := []) G0 (c_X12_look l E G L f s.heap.size u hG hWF Tu (show 0 ≤ mi f u 3 ∧ mi f u 3 ≤ mi f u 2 by omega)) (cwV 0 G0.2.2.2.2 g_X12_compare_X12_look_146 rfl rfl rfl (by decide +kernel) ⟨(show 1 + 1 ≤ fr + 1 by omega), (show 8 + (1 + 11) + 20 ≤ lo + 60 by omega)⟩) (py_preV hw (C := RX12) (T := TX12) (N := 54) rfl hr_35) rfl rfl hl.1 rfl (lv_room (Nat.le_of_ble_eq_true rfl)) dX12_compare_9 ⟨(Nat.le_of_ble_eq_true rfl), (Nat.le_of_ble_eq_true rfl)⟩) (fun r_117 L_113 f_114 H_115 locs hp_116 hw => ?_)
    obtain ⟨en_118, en_119, en_120, hWF, kp_121, fk_122⟩ := hp_116
    have cq_123 := cdv_k hG Tu kp_121 fk_122 (by decide)
    have hFK := hFK.trans fk_122 (by decide)
    have hKP := hKP.trans kp_121 (by decide) (by decide)
    obtain ⟨v_124, hr_125⟩ := fk_3 hWF Tu fk_122 hr_35
    have tq_126 := mi_row hr_125 2 rfl
    have tq_127 := mi_row hr_125 3 rfl
    have bv_124 := wf_free v_124
    have tq_128 := mi_row hr_125 4 rfl
    have bv_4 := wf_free v_4
    have tq_129 := mi_row hr_125 5 rfl
    have bv_5 := wf_free v_5
    have tq_130 := mi_row hr_125 14 rfl
    have hTR := hTR.kp hG Tu kp_121 fk_122 (by decide) (fun q => by omega)
    have br_117 := wf_free r_117
    refine lv_goto (tgt := 16) G0.1 G0.2.1 dX12_compare_12 (by decide) ?_
    refine lv_istore_n (lv' := [(1, .int r_117), (0, .ref u)]) G0.1 G0.2.1 dX12_compare_16 rfl hl (by decide) rfl (fun ls hl => ?_)
    refine lv_iload_n G0.1 G0.2.1 dX12_compare_17 rfl (lv_at hl 0 rfl) ?_
    refine py_calli hw (va_runS (As := [.int r_117]) (rest := []) G0 (c_X12_isSign l E G L_113 f_114 H_115.size r_117 hG hWF) (va_cwS 1 G0.2.2.2.2 g_X12_compare_X12_isSign_180 rfl rfl rfl (by decide +kernel) ⟨(show 0 + 1 ≤ fr + 1 by omega), (show 8 + (1 + 11) + 0 ≤ lo + 60 by omega)⟩) (py_preS hw) rfl rfl hl.1 rfl (lv_room (Nat.le_of_ble_eq_true rfl)) dX12_compare_18 ⟨(Nat.le_of_ble_eq_true rfl), (Nat.le_of_ble_eq_true rfl)⟩) (fun r_135 L_131 f_132 H_133 locs hp_134 hw => ?_)
    obtain ⟨b_137, en_136, rfl, rfl⟩ := hp_134
    refine lv_if_ne (tgt := 29) G0.1 G0.2.1 dX12_compare_21 (by decide) (fun c_138 => ?_) (fun c_138 => ?_)
    · skip
      have tc_138 := ti_ne c_138
      replace en_136 := en_136 (by omega)
      refine lv_aload_n G0.1 G0.2.1 dX12_compare_29 rfl (lv_at hl 1 rfl) ?_
      refine lv_dup G0.1 G0.2.1 dX12_compare_30 rfl ?_
      refine py_get (C := RX12) (T := TX12) (N := 54) (k := 3) (v := .int v_124) G0 hw in_X12_compare_X12 rfl hr_125 (by decide) (by decide +kernel) rfl dX12_compare_31 ?_
      refine lv_iconst (v := 1) G0.1 G0.2.1 dX12_compare_34 (by decide) ?_
      refine lv_iadd G0.1 G0.2.1 dX12_compare_35 ?_
      refine lv_topi (fun x_139 ex_139 => ?_)
      first | have tx_139 := ti_add ex_139 (by omega -splitDisjunctions) (by omega -splitDisjunctions) | skip
      refine py_put (C := RX12) (T := TX12) (N := 54) (k := 3) (v := .int x_139) (fs' := [.int v_1, .ref (G.2 u 1), .int v_2, .int x_139, .int v_4, .int v_5, .ref (G.2 u 6), .ref (G.2 u 7), .ref (G.2 u 8), .ref (G.2 u 9), .ref (G.2 u 10), .ref (G.2 u 11), .ref (G.2 u 12), .int v_6, .int v_7, .ref (G.2 u 15), .ref (G.2 u 16), .ref (G.2 u 17), .ref (G.2 u 18), .int v_8, .int v_9, .ref (G.2 u 21), .ref (G.2 u 22), .ref (G.2 u 23), .int v_10, .int v_11, .ref (G.2 u 26), .ref (G.2 u 27), .ref (G.2 u 28), .int v_12, .long y_13, .int v_14, .int v_15, .int v_16, .int v_17, .ref (G.2 u 35), .ref (G.2 u 36), .ref (G.2 u 37), .ref (G.2 u 38), .ref (G.2 u 39), .ref (G.2 u 40), .ref (G.2 u 41), .ref (G.2 u 42), .int v_18, .ref (G.2 u 44), .ref (G.2 u 45), .ref (G.2 u 46), .ref (G.2 u 47), .long y_19, .ref (G.2 u 49), .ref (G.2 u 50), .int v_20, .long y_21, .int v_22]) (ty0 := tyX12) G0 hw tyX12_ok nmX12 in_X12_compare_X12 rfl hr_125 (by decide) (by decide +kernel) rfl rfl rfl rfl (Nat.le_of_ble_eq_true rfl) rfl dX12_compare_36 (fun f_140 H_141 locs h_142 x_143 hw => ?_)
      have hFK := hFK.put hr_125 h_142 3 (by decide) rfl
      have cq_144 := cdv_own (f1 := f_114) (f2 := f_140) hG hWF Tu x_143 (by have z1 := mi_row hr_125 14 rfl; have z2 := mi_row h_142 14 rfl; omega)
      have hTR := hTR.own hG hWF Tu x_143 (by have z1 := mi_row hr_125 14 rfl; have z2 := mi_row h_142 14 rfl; omega) (by intro q; have z1 := mi_row hr_125 4 rfl; have z2 := mi_row h_142 4 rfl; omega)
      have hKP := hKP.upd hWF x_143 Tu (Or.inl (by decide))
      have hWF := wf_upd hWF h_142 x_143 (by rw [Tu]; exact ⟨v_1, v_2, x_139, v_4, v_5, v_6, v_7, v_8, v_9, v_10, v_11, v_12, y_13, v_14, v_15, v_16, v_17, v_18, y_19, v_20, y_21, v_22, rfl, ⟨by omega, by omega⟩, ⟨by omega, by omega⟩, ⟨by omega, by omega⟩, ⟨by omega, by omega⟩, ⟨by omega, by omega⟩, ⟨by omega, by omega⟩, ⟨by omega, by omega⟩, ⟨by omega, by omega⟩, ⟨by omega, by omega⟩, ⟨by omega, by omega⟩, ⟨by omega, by omega⟩, ⟨by omega, by omega⟩⟩)
      have tq_145 := mi_row h_142 2 rfl
      have tq_146 := mi_row h_142 3 rfl
      have bx_139 := wf_free x_139
      have tq_147 := mi_row h_142 4 rfl
      have bv_4 := wf_free v_4
      have tq_148 := mi_row h_142 5 rfl
      have bv_5 := wf_free v_5
      have tq_149 := mi_row h_142 14 rfl
      refine lv_aload_n G0.1 G0.2.1 dX12_compare_39 rfl (lv_at hl 1 rfl) ?_
      refine py_callv hw (va_runV (As := []) (rest := []) G0 (ih_sum L_113 f_140 H_141.size u hWF Tu (show mi f_140 u 4 = -1 ∧ wb ≤ mi f_140 u 5 ∧ mi f_140 u 5 ≤ 6 ∧ 0 ≤ mi f_140 u 3 ∧ mi f_140 u 3 ≤ mi f_140 u 2 ∧ cdv f_140 G u ≤ mi f_140 u 3 by omega)) (cwV 0 G0.2.2.2.2 g_X12_compare_X12_sum_167 rfl rfl rfl (by decide +kernel) ⟨(show f_sum + 1 ≤ fr + 1 by omega), (show 8 + (2 + 11) + l_sum ≤ lo + 60 by omega)⟩) (py_preV hw (C := RX12) (T := TX12) (N := 54) rfl h_142) rfl rfl hl.1 rfl (lv_room (Nat.le_of_ble_eq_true rfl)) dX12_compare_40 ⟨(Nat.le_of_ble_eq_true rfl), (Nat.le_of_ble_eq_true rfl)⟩) (fun L_150 f_151 H_152 locs hp_153 hw => ?_)
      obtain ⟨en_155, en_156, en_157, hWF, kp_158, fk_159⟩ := hp_153
      have hFK := hFK.trans fk_159 (by decide)
      have hKP := hKP.trans kp_158 (by decide) (by decide)
      obtain ⟨v_160, v_161, v_162, hr_163⟩ := fk_3_4_5 hWF Tu fk_159 h_142
      have tq_164 := mi_row hr_163 2 rfl
      have tq_165 := mi_row hr_163 3 rfl
      have bv_160 := wf_free v_160
      have tq_166 := mi_row hr_163 4 rfl
      have bv_161 := wf_free v_161
      have tq_167 := mi_row hr_163 5 rfl
      have bv_162 := wf_free v_162
      have tq_168 := mi_row hr_163 14 rfl
      have hTR : TR f f_151 G u (16 - 2 * wb) 1 2 := hTR.trans (en_157.lift (b := 1) (by omega) (by omega) (by omega) (by omega)) (fun q => by omega)
      refine lv_aload_n G0.1 G0.2.1 dX12_compare_43 rfl (lv_at hl 1 rfl) ?_
      refine lv_iload_n G0.1 G0.2.1 dX12_compare_44 rfl (lv_at hl 0 rfl) ?_
      refine lv_bipush (v := 61) G0.1 G0.2.1 dX12_compare_45 (by decide) ?_
      have jn_68 : ∀ (v_169 : Int32) (H_j68 : Heap) (locs : List Loc) (ls : Array Slot), (6 ≤ v_169.toInt ∧ v_169.toInt ≤ 8) → py_W E (va_A (va_pl L f) s.heap.size) s L_150 f_151 H_j68 locs → lv_has ls 2 [(1, .int r_117), (0, .ref u)] → W p l e (headSpec w_X12_compare ({ frames := fr + 1, cells := 0, slots := 0, locals := lo + 60 })).room s m ([.ref u] : List Value).toArray below meth c H_j68 locs 0 0 (MQ below (py_Qv E L f s.heap.size (fun L1 f1 => (mi f u 3 ≤ mi f1 u 3 ∧ cdv f1 G u - cdv f G u ≤ mi f1 u 3 - mi f u 3) ∧ (mi f u 4 = -1 → mi f1 u 3 ≤ 167 - mi f u 5) ∧ (mi f u 4 ≠ -1 → mi f1 u 3 = mi f u 3 ∧ mi f1 u 4 ≠ -1) ∧ (mi f1 u 4 = -1 → mi f1 u 5 = mi f u 5 ∧ mi f1 u 3 ≤ mi f u 2) ∧ (TR f f1 G u (16 - 2 * wb) 1 1) ∧ WF E G L1 f1 ∧ KP G [41, 42, 43, 13] false f f1 ∧ FK [3, 4, 5] f f1 u)) ([.ref u] : List Value).toArray s 0 0 (va_A (va_pl L f) s.heap.size)) (F0 m 68 ls [.int v_169, .ref u]) := by
        intro v_169 H_j68 locs ls bv_169 hw hl
        refine lv_iconst (v := 0) G0.1 G0.2.1 dX12_compare_68 (by decide) ?_
        refine py_callv hw (va_runV (As := [.int v_169, .int 0]) (rest := []) G0 (c_X12_put l E G L_150 f_151 H_j68.size u v_169 0 hG hWF Tu (show cdv f_151 G u ≤ 339 by omega)) (cwV 2 G0.2.2.2.2 g_X12_compare_X12_put_156 rfl rfl rfl (by decide +kernel) ⟨(show 0 + 1 ≤ fr + 1 by omega), (show 8 + (3 + 11) + 0 ≤ lo + 60 by omega)⟩) (py_preV hw (C := RX12) (T := TX12) (N := 54) rfl hr_163) rfl rfl hl.1 rfl (lv_room (Nat.le_of_ble_eq_true rfl)) dX12_compare_69 ⟨(Nat.le_of_ble_eq_true rfl), (Nat.le_of_ble_eq_true rfl)⟩) (fun L_170 f_171 H_172 locs hp_173 hw => ?_)
        obtain ⟨en_175, en_176, hWF, kp_177, fk_178⟩ := hp_173
        have en_175 : PT f_151 f_171 G u v_169 (0 : Int32) := en_175
        have hFK := hFK.trans fk_178 (by decide)
        have hKP := hKP.trans kp_177 (by decide) (by decide)
        have hr_163 := kp_at kp_177 hWF Tu (by decide) (by decide) (by decide) hr_163
        have tq_179 := mi_row hr_163 2 rfl
        have tq_180 := mi_row hr_163 3 rfl
        have bv_160 := wf_free v_160
        have tq_181 := mi_row hr_163 4 rfl
        have bv_161 := wf_free v_161
        have tq_182 := mi_row hr_163 5 rfl
        have bv_162 := wf_free v_162
        have tq_183 := mi_row hr_163 14 rfl
        have hTR : TR f f_171 G u (16 - 2 * wb) 1 1 := hTR.trans (en_175.tr (by omega)) (fun q => by omega)
        exact py_vret G0 hr hlk hw ⟨(by first | omega | (intro q; omega)), (by first | omega | (intro q; omega)), (by first | omega | (intro q; omega)), (by first | omega | (intro q; omega)), hTR, hWF, hKP, hFK⟩ dX12_compare_72
      refine lv_icmp_ne (tgt := 55) G0.1 G0.2.1 dX12_compare_47 (by decide) (fun c_184 => ?_) (fun c_184 => ?_)
      · skip
        have tc_184 := ti_ne c_184
        refine lv_iload_n G0.1 G0.2.1 dX12_compare_55 rfl (lv_at hl 0 rfl) ?_
        refine lv_bipush (v := 60) G0.1 G0.2.1 dX12_compare_56 (by decide) ?_
        refine lv_icmp_ne (tgt := 66) G0.1 G0.2.1 dX12_compare_58 (by decide) (fun c_185 => ?_) (fun c_185 => ?_)
        · skip
          have tc_185 := ti_ne c_185
          refine lv_bipush (v := 8) G0.1 G0.2.1 dX12_compare_66 (by decide) ?_
          exact jn_68 8 _ _ ls ⟨by omega, by omega⟩ hw (lv_sub hl [0, 1] rfl)
        · skip
          have tc_185 := ti_eq c_185
          replace en_119 := en_119 (by omega)
          refine lv_bipush (v := 7) G0.1 G0.2.1 dX12_compare_61 (by decide) ?_
          refine lv_goto (tgt := 68) G0.1 G0.2.1 dX12_compare_63 (by decide) ?_
          exact jn_68 7 _ _ ls ⟨by omega, by omega⟩ hw (lv_sub hl [0, 1] rfl)
      · skip
        have tc_184 := ti_eq c_184
        replace en_119 := en_119 (by omega)
        refine lv_bipush (v := 6) G0.1 G0.2.1 dX12_compare_50 (by decide) ?_
        refine lv_goto (tgt := 68) G0.1 G0.2.1 dX12_compare_52 (by decide) ?_
        exact jn_68 6 _ _ ls ⟨by omega, by omega⟩ hw (lv_sub hl [0, 1] rfl)
    · skip
      have tc_138 := ti_eq c_138
      clear en_136
      refine lv_aload_n G0.1 G0.2.1 dX12_compare_24 rfl (lv_at hl 1 rfl) ?_
      refine py_callv hw (va_runV (As := []) (rest := []) G0 (c_X12_bad l E G L_113 f_114 H_133.size u hG hWF Tu (show 0 ≤ mi f_114 u 3 by omega)) (cwV 0 G0.2.2.2.2 g_X12_compare_X12_bad_143 rfl rfl rfl (by decide +kernel) ⟨(show 0 + 1 ≤ fr + 1 by omega), (show 8 + (1 + 11) + 0 ≤ lo + 60 by omega)⟩) (py_preV hw (C := RX12) (T := TX12) (N := 54) rfl hr_125) rfl rfl hl.1 rfl (lv_room (Nat.le_of_ble_eq_true rfl)) dX12_compare_25 ⟨(Nat.le_of_ble_eq_true rfl), (Nat.le_of_ble_eq_true rfl)⟩) (fun L_186 f_187 H_188 locs hp_189 hw => ?_)
      obtain ⟨en_191, en_192, hWF, kp_193, fk_194⟩ := hp_189
      have cq_195 := cdv_k hG Tu kp_193 fk_194 (by decide)
      have hFK := hFK.trans fk_194 (by decide)
      have hKP := hKP.trans kp_193 (by decide) (by decide)
      obtain ⟨v_196, hr_197⟩ := fk_4 hWF Tu fk_194 hr_125
      have tq_198 := mi_row hr_197 2 rfl
      have tq_199 := mi_row hr_197 3 rfl
      have bv_124 := wf_free v_124
      have tq_200 := mi_row hr_197 4 rfl
      have bv_196 := wf_free v_196
      have tq_201 := mi_row hr_197 5 rfl
      have bv_5 := wf_free v_5
      have tq_202 := mi_row hr_197 14 rfl
      have hTR := hTR.kp hG Tu kp_193 fk_194 (by decide) (fun q => by omega)
      exact py_vret G0 hr hlk hw ⟨(by first | omega | (intro q; omega)), (by first | omega | (intro q; omega)), (by first | omega | (intro q; omega)), (by first | omega | (intro q; omega)), hTR, hWF, hKP, hFK⟩ dX12_compare_28

set_option maxHeartbeats 4000000 in
set_option maxRecDepth 100000 in
theorem q_unit (l : Launch) (E : py_E) (G : wf_G) (hG : GT G) (wb : Int) (hwb : 0 ≤ wb) (fr lo : Nat) (hfr : 10 ≤ fr) (hlo : 300 ≤ lo) (f_unit l_unit : Nat) (x_unit : f_unit ≤ fr) (z_unit : l_unit ≤ lo) (ih_unit : Q_unit l E G (wb + 1) f_unit l_unit) (f_condition l_condition : Nat) (x_condition : f_condition ≤ fr) (z_condition : l_condition ≤ lo) (ih_condition : Q_condition l E G (wb + 1) f_condition l_condition) (f_sum l_sum : Nat) (x_sum : f_sum ≤ fr) (z_sum : l_sum ≤ lo) (ih_sum : Q_sum l E G wb f_sum l_sum) (f_compare l_compare : Nat) (x_compare : f_compare ≤ fr) (z_compare : l_compare ≤ lo) (ih_compare : Q_compare l E G wb f_compare l_compare) : Q_unit l E G wb (fr + 1) (lo + 60) := by
  intro L f sz u hWF Tu hp0
  refine Met.ofW (cc := cX12_unit) (maxL := 2) (ret := none) (by decide) rfl ?_
  intro p e s m args below meth c s₁ B hml hv
  obtain ⟨rfl, rfl, hw⟩ := py_start hv
  have G0 : CallFix p m c cX12_unit 2 s _ w_X12_unit RX12 := ⟨B.exec, B.bytes, hml, findClass_of_methodNamed B.named, atoms_spec (ws := w_X12_unit) B.pre⟩
  have hr := B.returns
  have hlk := B.notSynchronized
  have kcm1 : (-1 : Int32).toInt = -1 := rfl
  have kc0 : (0 : Int32).toInt = 0 := rfl
  have kc1 : (1 : Int32).toInt = 1 := rfl
  have kc9 : (9 : Int32).toInt = 9 := rfl
  have kc33 : (33 : Int32).toInt = 33 := rfl
  have kc40 : (40 : Int32).toInt = 40 := rfl
  have kc41 : (41 : Int32).toInt = 41 := rfl
  have hl := lv_entry ([.ref u]) (n := 2) (Nat.le_of_ble_eq_true rfl)
  rw [lg_entry_eq]
  generalize (lg_sl ([.ref u]) ++ List.replicate (2 - (lg_sl ([.ref u])).length) Slot.unset).toArray = ls at hl ⊢
  have hl : lv_has ls 2 [(0, .ref u)] := hl
  have hKP : KP G [41, 42, 43, 13] false f f := KP.refl
  have hFK : FK [3, 4, 5] f f u := FK.refl
  obtain ⟨v_1, v_2, v_3, v_4, v_5, v_6, v_7, v_8, v_9, v_10, v_11, v_12, y_13, v_14, v_15, v_16, v_17, v_18, y_19, v_20, y_21, v_22, hr_35, b_23, b_24, b_25, b_26, b_27, b_28, b_29, b_30, b_31, b_32, b_33, b_34⟩ := wg_12 hWF Tu
  have tq_36 := mi_row hr_35 2 rfl
  have tq_37 := mi_row hr_35 3 rfl
  have bv_3 := wf_free v_3
  have tq_38 := mi_row hr_35 4 rfl
  have bv_4 := wf_free v_4
  have tq_39 := mi_row hr_35 5 rfl
  have bv_5 := wf_free v_5
  have tq_40 := mi_row hr_35 14 rfl
  have hcd := cdv_rng hG hWF Tu (by omega) (by omega)
  have hTR : TR f f G u (18 - 2 * wb) 0 0 := TR.refl (by omega) (by omega)
  refine lv_aload_n G0.1 G0.2.1 dX12_unit_0 rfl (lv_at hl 0 rfl) ?_
  refine py_calli hw (va_runV (As := []) (rest := []) G0 (c_X12_look l E G L f s.heap.size u hG hWF Tu (show 0 ≤ mi f u 3 ∧ mi f u 3 ≤ mi f u 2 by omega)) (cwV 0 G0.2.2.2.2 g_X12_unit_X12_look_146 rfl rfl rfl (by decide +kernel) ⟨(show 1 + 1 ≤ fr + 1 by omega), (show 8 + (1 + 11) + 20 ≤ lo + 60 by omega)⟩) (py_preV hw (C := RX12) (T := TX12) (N := 54) rfl hr_35) rfl rfl hl.1 rfl (lv_room (Nat.le_of_ble_eq_true rfl)) dX12_unit_1 ⟨(Nat.le_of_ble_eq_true rfl), (Nat.le_of_ble_eq_true rfl)⟩) (fun r_45 L_41 f_42 H_43 locs hp_44 hw => ?_)
  obtain ⟨en_46, en_47, en_48, hWF, kp_49, fk_50⟩ := hp_44
  have cq_51 := cdv_k hG Tu kp_49 fk_50 (by decide)
  have hFK := hFK.trans fk_50 (by decide)
  have hKP := hKP.trans kp_49 (by decide) (by decide)
  obtain ⟨v_52, hr_53⟩ := fk_3 hWF Tu fk_50 hr_35
  have tq_54 := mi_row hr_53 2 rfl
  have tq_55 := mi_row hr_53 3 rfl
  have bv_52 := wf_free v_52
  have tq_56 := mi_row hr_53 4 rfl
  have bv_4 := wf_free v_4
  have tq_57 := mi_row hr_53 5 rfl
  have bv_5 := wf_free v_5
  have tq_58 := mi_row hr_53 14 rfl
  have hTR := hTR.kp hG Tu kp_49 fk_50 (by decide) (fun q => by omega)
  have br_45 := wf_free r_45
  refine lv_istore_n (lv' := [(1, .int r_45), (0, .ref u)]) G0.1 G0.2.1 dX12_unit_4 rfl hl (by decide) rfl (fun ls hl => ?_)
  refine lv_iload_n G0.1 G0.2.1 dX12_unit_5 rfl (lv_at hl 0 rfl) ?_
  refine lv_bipush (v := 33) G0.1 G0.2.1 dX12_unit_6 (by decide) ?_
  refine lv_icmp_ne (tgt := 47) G0.1 G0.2.1 dX12_unit_8 (by decide) (fun c_59 => ?_) (fun c_59 => ?_)
  · skip
    have tc_59 := ti_ne c_59
    refine lv_iload_n G0.1 G0.2.1 dX12_unit_47 rfl (lv_at hl 0 rfl) ?_
    refine lv_bipush (v := 40) G0.1 G0.2.1 dX12_unit_48 (by decide) ?_
    refine lv_icmp_ne (tgt := 78) G0.1 G0.2.1 dX12_unit_50 (by decide) (fun c_60 => ?_) (fun c_60 => ?_)
    · skip
      have tc_60 := ti_ne c_60
      refine lv_aload_n G0.1 G0.2.1 dX12_unit_78 rfl (lv_at hl 1 rfl) ?_
      refine py_callv hw (va_runV (As := []) (rest := []) G0 (ih_sum L_41 f_42 H_43.size u hWF Tu (show mi f_42 u 4 = -1 ∧ wb ≤ mi f_42 u 5 ∧ mi f_42 u 5 ≤ 6 ∧ 0 ≤ mi f_42 u 3 ∧ mi f_42 u 3 ≤ mi f_42 u 2 ∧ cdv f_42 G u ≤ mi f_42 u 3 by omega)) (cwV 0 G0.2.2.2.2 g_X12_unit_X12_sum_167 rfl rfl rfl (by decide +kernel) ⟨(show f_sum + 1 ≤ fr + 1 by omega), (show 8 + (2 + 11) + l_sum ≤ lo + 60 by omega)⟩) (py_preV hw (C := RX12) (T := TX12) (N := 54) rfl hr_53) rfl rfl hl.1 rfl (lv_room (Nat.le_of_ble_eq_true rfl)) dX12_unit_79 ⟨(Nat.le_of_ble_eq_true rfl), (Nat.le_of_ble_eq_true rfl)⟩) (fun L_61 f_62 H_63 locs hp_64 hw => ?_)
      obtain ⟨en_66, en_67, en_68, hWF, kp_69, fk_70⟩ := hp_64
      have hFK := hFK.trans fk_70 (by decide)
      have hKP := hKP.trans kp_69 (by decide) (by decide)
      obtain ⟨v_71, v_72, v_73, hr_74⟩ := fk_3_4_5 hWF Tu fk_70 hr_53
      have tq_75 := mi_row hr_74 2 rfl
      have tq_76 := mi_row hr_74 3 rfl
      have bv_71 := wf_free v_71
      have tq_77 := mi_row hr_74 4 rfl
      have bv_72 := wf_free v_72
      have tq_78 := mi_row hr_74 5 rfl
      have bv_73 := wf_free v_73
      have tq_79 := mi_row hr_74 14 rfl
      have hTR : TR f f_62 G u (18 - 2 * wb) 0 1 := hTR.trans (en_68.lift (b := 0) (by omega) (by omega) (by omega) (by omega)) (fun q => by omega)
      refine lv_aload_n G0.1 G0.2.1 dX12_unit_82 rfl (lv_at hl 1 rfl) ?_
      refine py_get (C := RX12) (T := TX12) (N := 54) (k := 4) (v := .int v_72) G0 hw in_X12_unit_X12 rfl hr_74 (by decide) (by decide +kernel) rfl dX12_unit_83 ?_
      refine lv_iconst (v := (-1)) G0.1 G0.2.1 dX12_unit_86 (by decide) ?_
      refine lv_icmp_ne (tgt := 94) G0.1 G0.2.1 dX12_unit_87 (by decide) (fun c_80 => ?_) (fun c_80 => ?_)
      · skip
        have tc_80 := ti_ne c_80
        clear en_67
        exact py_vret G0 hr hlk hw ⟨(by first | omega | (intro q; omega)), (by first | omega | (intro q; omega)), hTR, hWF, hKP, hFK⟩ dX12_unit_94
      · skip
        have tc_80 := ti_eq c_80
        replace en_67 := en_67 (by omega)
        refine lv_aload_n G0.1 G0.2.1 dX12_unit_90 rfl (lv_at hl 1 rfl) ?_
        refine py_callv hw (va_runV (As := []) (rest := []) G0 (ih_compare L_61 f_62 H_63.size u hWF Tu (show (mi f_62 u 4 = -1 → wb ≤ mi f_62 u 5 ∧ mi f_62 u 5 ≤ 6 ∧ mi f_62 u 3 ≤ mi f_62 u 2) ∧ 0 ≤ mi f_62 u 3 ∧ cdv f_62 G u ≤ mi f_62 u 3 by omega)) (cwV 0 G0.2.2.2.2 g_X12_unit_X12_compare_189 rfl rfl rfl (by decide +kernel) ⟨(show f_compare + 1 ≤ fr + 1 by omega), (show 8 + (2 + 11) + l_compare ≤ lo + 60 by omega)⟩) (py_preV hw (C := RX12) (T := TX12) (N := 54) rfl hr_74) rfl rfl hl.1 rfl (lv_room (Nat.le_of_ble_eq_true rfl)) dX12_unit_91 ⟨(Nat.le_of_ble_eq_true rfl), (Nat.le_of_ble_eq_true rfl)⟩) (fun L_81 f_82 H_83 locs hp_84 hw => ?_)
        obtain ⟨en_86, en_87, en_88, en_89, en_90, hWF, kp_91, fk_92⟩ := hp_84
        have hFK := hFK.trans fk_92 (by decide)
        have hKP := hKP.trans kp_91 (by decide) (by decide)
        obtain ⟨v_93, v_94, v_95, hr_96⟩ := fk_3_4_5 hWF Tu fk_92 hr_74
        have tq_97 := mi_row hr_96 2 rfl
        have tq_98 := mi_row hr_96 3 rfl
        have bv_93 := wf_free v_93
        have tq_99 := mi_row hr_96 4 rfl
        have bv_94 := wf_free v_94
        have tq_100 := mi_row hr_96 5 rfl
        have bv_95 := wf_free v_95
        have tq_101 := mi_row hr_96 14 rfl
        have hTR : TR f f_82 G u (18 - 2 * wb) 0 1 := hTR.trans (en_90.lift (b := 0) (by omega) (by omega) (by omega) (by omega)) (fun q => by omega)
        exact py_vret G0 hr hlk hw ⟨(by first | omega | (intro q; omega)), (by first | omega | (intro q; omega)), hTR, hWF, hKP, hFK⟩ dX12_unit_94
    · skip
      have tc_60 := ti_eq c_60
      replace en_47 := en_47 (by omega)
      refine lv_aload_n G0.1 G0.2.1 dX12_unit_53 rfl (lv_at hl 1 rfl) ?_
      refine py_callv hw (va_runV (As := []) (rest := []) G0 (c_X12_opens l E G L_41 f_42 H_43.size u hG hWF Tu (show 0 ≤ mi f_42 u 3 ∧ mi f_42 u 3 ≤ 1000 ∧ 0 ≤ mi f_42 u 5 ∧ mi f_42 u 5 ≤ 6 by omega)) (cwV 0 G0.2.2.2.2 g_X12_unit_X12_opens_164 rfl rfl rfl (by decide +kernel) ⟨(show 1 + 1 ≤ fr + 1 by omega), (show 8 + (1 + 11) + 20 ≤ lo + 60 by omega)⟩) (py_preV hw (C := RX12) (T := TX12) (N := 54) rfl hr_53) rfl rfl hl.1 rfl (lv_room (Nat.le_of_ble_eq_true rfl)) dX12_unit_54 ⟨(Nat.le_of_ble_eq_true rfl), (Nat.le_of_ble_eq_true rfl)⟩) (fun L_102 f_103 H_104 locs hp_105 hw => ?_)
      obtain ⟨en_107, en_108, en_109, en_110, hWF, kp_111, fk_112⟩ := hp_105
      have cq_113 := cdv_k hG Tu kp_111 fk_112 (by decide)
      have hFK := hFK.trans fk_112 (by decide)
      have hKP := hKP.trans kp_111 (by decide) (by decide)
      obtain ⟨v_114, v_115, v_116, hr_117⟩ := fk_3_4_5 hWF Tu fk_112 hr_53
      have tq_118 := mi_row hr_117 2 rfl
      have tq_119 := mi_row hr_117 3 rfl
      have bv_114 := wf_free v_114
      have tq_120 := mi_row hr_117 4 rfl
      have bv_115 := wf_free v_115
      have tq_121 := mi_row hr_117 5 rfl
      have bv_116 := wf_free v_116
      have tq_122 := mi_row hr_117 14 rfl
      have hTR := hTR.kp hG Tu kp_111 fk_112 (by decide) (fun q => by omega)
      refine lv_aload_n G0.1 G0.2.1 dX12_unit_57 rfl (lv_at hl 1 rfl) ?_
      refine py_get (C := RX12) (T := TX12) (N := 54) (k := 4) (v := .int v_115) G0 hw in_X12_unit_X12 rfl hr_117 (by decide) (by decide +kernel) rfl dX12_unit_58 ?_
      refine lv_iconst (v := (-1)) G0.1 G0.2.1 dX12_unit_61 (by decide) ?_
      refine lv_icmp_ne (tgt := 94) G0.1 G0.2.1 dX12_unit_62 (by decide) (fun c_123 => ?_) (fun c_123 => ?_)
      · skip
        have tc_123 := ti_ne c_123
        exact py_vret G0 hr hlk hw ⟨(by first | omega | (intro q; omega)), (by first | omega | (intro q; omega)), (hTR.wrong (by omega)), hWF, hKP, hFK⟩ dX12_unit_94
      · skip
        have tc_123 := ti_eq c_123
        refine lv_aload_n G0.1 G0.2.1 dX12_unit_65 rfl (lv_at hl 1 rfl) ?_
        refine py_callv hw (va_runV (As := []) (rest := []) G0 (ih_condition L_102 f_103 H_104.size u hWF Tu (show mi f_103 u 4 = -1 ∧ (wb + 1) ≤ mi f_103 u 5 ∧ mi f_103 u 5 ≤ 6 ∧ 0 ≤ mi f_103 u 3 ∧ mi f_103 u 3 ≤ mi f_103 u 2 ∧ cdv f_103 G u ≤ mi f_103 u 3 by omega)) (cwV 0 G0.2.2.2.2 g_X12_unit_X12_condition_186 rfl rfl rfl (by decide +kernel) ⟨(show f_condition + 1 ≤ fr + 1 by omega), (show 8 + (1 + 11) + l_condition ≤ lo + 60 by omega)⟩) (py_preV hw (C := RX12) (T := TX12) (N := 54) rfl hr_117) rfl rfl hl.1 rfl (lv_room (Nat.le_of_ble_eq_true rfl)) dX12_unit_66 ⟨(Nat.le_of_ble_eq_true rfl), (Nat.le_of_ble_eq_true rfl)⟩) (fun L_124 f_125 H_126 locs hp_127 hw => ?_)
        obtain ⟨en_129, en_130, en_131, hWF, kp_132, fk_133⟩ := hp_127
        have hFK := hFK.trans fk_133 (by decide)
        have hKP := hKP.trans kp_132 (by decide) (by decide)
        obtain ⟨v_134, v_135, v_136, hr_137⟩ := fk_3_4_5 hWF Tu fk_133 hr_117
        have tq_138 := mi_row hr_137 2 rfl
        have tq_139 := mi_row hr_137 3 rfl
        have bv_134 := wf_free v_134
        have tq_140 := mi_row hr_137 4 rfl
        have bv_135 := wf_free v_135
        have tq_141 := mi_row hr_137 5 rfl
        have bv_136 := wf_free v_136
        have tq_142 := mi_row hr_137 14 rfl
        have hTR : TR f f_125 G u (18 - 2 * wb) 0 1 := hTR.trans (en_131.lift (b := 0) (by omega) (by omega) (by omega) (by omega)) (fun q => by omega)
        refine lv_aload_n G0.1 G0.2.1 dX12_unit_69 rfl (lv_at hl 1 rfl) ?_
        refine lv_bipush (v := 41) G0.1 G0.2.1 dX12_unit_70 (by decide) ?_
        refine py_callv hw (va_runV (As := [.int 41]) (rest := []) G0 (c_X12_closes l E G L_124 f_125 H_126.size u 41 hG hWF Tu (show 0 ≤ mi f_125 u 3 ∧ mi f_125 u 3 ≤ 1000 ∧ (41 : Int32).toInt ≠ -1 by omega) (show mi f_125 u 4 = -1 → mi f_125 u 3 ≤ mi f_125 u 2 by omega)) (cwV 1 G0.2.2.2.2 g_X12_unit_X12_closes_170 rfl rfl rfl (by decide +kernel) ⟨(show 2 + 1 ≤ fr + 1 by omega), (show 8 + (2 + 11) + 40 ≤ lo + 60 by omega)⟩) (py_preV hw (C := RX12) (T := TX12) (N := 54) rfl hr_137) rfl rfl hl.1 rfl (lv_room (Nat.le_of_ble_eq_true rfl)) dX12_unit_72 ⟨(Nat.le_of_ble_eq_true rfl), (Nat.le_of_ble_eq_true rfl)⟩) (fun L_143 f_144 H_145 locs hp_146 hw => ?_)
        obtain ⟨en_148, en_149, en_150, en_151, en_152, hWF, kp_153, fk_154⟩ := hp_146
        have cq_155 := cdv_k hG Tu kp_153 fk_154 (by decide)
        have hFK := hFK.trans fk_154 (by decide)
        have hKP := hKP.trans kp_153 (by decide) (by decide)
        obtain ⟨v_156, v_157, v_158, hr_159⟩ := fk_3_4_5 hWF Tu fk_154 hr_137
        have tq_160 := mi_row hr_159 2 rfl
        have tq_161 := mi_row hr_159 3 rfl
        have bv_156 := wf_free v_156
        have tq_162 := mi_row hr_159 4 rfl
        have bv_157 := wf_free v_157
        have tq_163 := mi_row hr_159 5 rfl
        have bv_158 := wf_free v_158
        have tq_164 := mi_row hr_159 14 rfl
        have hTR := hTR.kp hG Tu kp_153 fk_154 (by decide) (fun q => by omega)
        refine lv_goto (tgt := 94) G0.1 G0.2.1 dX12_unit_75 (by decide) ?_
        exact py_vret G0 hr hlk hw ⟨(by first | omega | (intro q; omega)), (by first | omega | (intro q; omega)), hTR, hWF, hKP, hFK⟩ dX12_unit_94
  · skip
    have tc_59 := ti_eq c_59
    replace en_47 := en_47 (by omega)
    refine lv_aload_n G0.1 G0.2.1 dX12_unit_11 rfl (lv_at hl 1 rfl) ?_
    refine py_callv hw (va_runV (As := []) (rest := []) G0 (c_X12_opens l E G L_41 f_42 H_43.size u hG hWF Tu (show 0 ≤ mi f_42 u 3 ∧ mi f_42 u 3 ≤ 1000 ∧ 0 ≤ mi f_42 u 5 ∧ mi f_42 u 5 ≤ 6 by omega)) (cwV 0 G0.2.2.2.2 g_X12_unit_X12_opens_164 rfl rfl rfl (by decide +kernel) ⟨(show 1 + 1 ≤ fr + 1 by omega), (show 8 + (1 + 11) + 20 ≤ lo + 60 by omega)⟩) (py_preV hw (C := RX12) (T := TX12) (N := 54) rfl hr_53) rfl rfl hl.1 rfl (lv_room (Nat.le_of_ble_eq_true rfl)) dX12_unit_12 ⟨(Nat.le_of_ble_eq_true rfl), (Nat.le_of_ble_eq_true rfl)⟩) (fun L_165 f_166 H_167 locs hp_168 hw => ?_)
    obtain ⟨en_170, en_171, en_172, en_173, hWF, kp_174, fk_175⟩ := hp_168
    have cq_176 := cdv_k hG Tu kp_174 fk_175 (by decide)
    have hFK := hFK.trans fk_175 (by decide)
    have hKP := hKP.trans kp_174 (by decide) (by decide)
    obtain ⟨v_177, v_178, v_179, hr_180⟩ := fk_3_4_5 hWF Tu fk_175 hr_53
    have tq_181 := mi_row hr_180 2 rfl
    have tq_182 := mi_row hr_180 3 rfl
    have bv_177 := wf_free v_177
    have tq_183 := mi_row hr_180 4 rfl
    have bv_178 := wf_free v_178
    have tq_184 := mi_row hr_180 5 rfl
    have bv_179 := wf_free v_179
    have tq_185 := mi_row hr_180 14 rfl
    have hTR := hTR.kp hG Tu kp_174 fk_175 (by decide) (fun q => by omega)
    refine lv_aload_n G0.1 G0.2.1 dX12_unit_15 rfl (lv_at hl 1 rfl) ?_
    refine py_get (C := RX12) (T := TX12) (N := 54) (k := 4) (v := .int v_178) G0 hw in_X12_unit_X12 rfl hr_180 (by decide) (by decide +kernel) rfl dX12_unit_16 ?_
    refine lv_iconst (v := (-1)) G0.1 G0.2.1 dX12_unit_19 (by decide) ?_
    refine lv_icmp_ne (tgt := 94) G0.1 G0.2.1 dX12_unit_20 (by decide) (fun c_186 => ?_) (fun c_186 => ?_)
    · skip
      have tc_186 := ti_ne c_186
      exact py_vret G0 hr hlk hw ⟨(by first | omega | (intro q; omega)), (by first | omega | (intro q; omega)), (hTR.wrong (by omega)), hWF, hKP, hFK⟩ dX12_unit_94
    · skip
      have tc_186 := ti_eq c_186
      refine lv_aload_n G0.1 G0.2.1 dX12_unit_23 rfl (lv_at hl 1 rfl) ?_
      refine py_callv hw (va_runV (As := []) (rest := []) G0 (ih_unit L_165 f_166 H_167.size u hWF Tu (show mi f_166 u 4 = -1 ∧ (wb + 1) ≤ mi f_166 u 5 ∧ mi f_166 u 5 ≤ 6 ∧ 0 ≤ mi f_166 u 3 ∧ mi f_166 u 3 ≤ mi f_166 u 2 ∧ cdv f_166 G u ≤ mi f_166 u 3 by omega)) (cwV 0 G0.2.2.2.2 g_X12_unit_X12_unit_183 rfl rfl rfl (by decide +kernel) ⟨(show f_unit + 1 ≤ fr + 1 by omega), (show 8 + (2 + 11) + l_unit ≤ lo + 60 by omega)⟩) (py_preV hw (C := RX12) (T := TX12) (N := 54) rfl hr_180) rfl rfl hl.1 rfl (lv_room (Nat.le_of_ble_eq_true rfl)) dX12_unit_24 ⟨(Nat.le_of_ble_eq_true rfl), (Nat.le_of_ble_eq_true rfl)⟩) (fun L_187 f_188 H_189 locs hp_190 hw => ?_)
      obtain ⟨en_192, en_193, en_194, hWF, kp_195, fk_196⟩ := hp_190
      have hFK := hFK.trans fk_196 (by decide)
      have hKP := hKP.trans kp_195 (by decide) (by decide)
      obtain ⟨v_197, v_198, v_199, hr_200⟩ := fk_3_4_5 hWF Tu fk_196 hr_180
      have tq_201 := mi_row hr_200 2 rfl
      have tq_202 := mi_row hr_200 3 rfl
      have bv_197 := wf_free v_197
      have tq_203 := mi_row hr_200 4 rfl
      have bv_198 := wf_free v_198
      have tq_204 := mi_row hr_200 5 rfl
      have bv_199 := wf_free v_199
      have tq_205 := mi_row hr_200 14 rfl
      have hTR : TR f f_188 G u (18 - 2 * wb) 0 1 := hTR.trans (en_194.lift (b := 0) (by omega) (by omega) (by omega) (by omega)) (fun q => by omega)
      refine lv_aload_n G0.1 G0.2.1 dX12_unit_27 rfl (lv_at hl 1 rfl) ?_
      refine lv_bipush (v := 9) G0.1 G0.2.1 dX12_unit_28 (by decide) ?_
      refine lv_iconst (v := 0) G0.1 G0.2.1 dX12_unit_30 (by decide) ?_
      refine py_callv hw (va_runV (As := [.int 9, .int 0]) (rest := []) G0 (c_X12_put l E G L_187 f_188 H_189.size u 9 0 hG hWF Tu (show cdv f_188 G u ≤ 339 by omega)) (cwV 2 G0.2.2.2.2 g_X12_unit_X12_put_156 rfl rfl rfl (by decide +kernel) ⟨(show 0 + 1 ≤ fr + 1 by omega), (show 8 + (3 + 11) + 0 ≤ lo + 60 by omega)⟩) (py_preV hw (C := RX12) (T := TX12) (N := 54) rfl hr_200) rfl rfl hl.1 rfl (lv_room (Nat.le_of_ble_eq_true rfl)) dX12_unit_31 ⟨(Nat.le_of_ble_eq_true rfl), (Nat.le_of_ble_eq_true rfl)⟩) (fun L_206 f_207 H_208 locs hp_209 hw => ?_)
      obtain ⟨en_211, en_212, hWF, kp_213, fk_214⟩ := hp_209
      have en_211 : PT f_188 f_207 G u (9 : Int32) (0 : Int32) := en_211
      have hFK := hFK.trans fk_214 (by decide)
      have hKP := hKP.trans kp_213 (by decide) (by decide)
      have hr_200 := kp_at kp_213 hWF Tu (by decide) (by decide) (by decide) hr_200
      have tq_215 := mi_row hr_200 2 rfl
      have tq_216 := mi_row hr_200 3 rfl
      have bv_197 := wf_free v_197
      have tq_217 := mi_row hr_200 4 rfl
      have bv_198 := wf_free v_198
      have tq_218 := mi_row hr_200 5 rfl
      have bv_199 := wf_free v_199
      have tq_219 := mi_row hr_200 14 rfl
      have hTR : TR f f_207 G u (18 - 2 * wb) 0 1 := hTR.trans (en_211.tr (by omega)) (fun q => by omega)
      refine lv_aload_n G0.1 G0.2.1 dX12_unit_34 rfl (lv_at hl 1 rfl) ?_
      refine lv_dup G0.1 G0.2.1 dX12_unit_35 rfl ?_
      refine py_get (C := RX12) (T := TX12) (N := 54) (k := 5) (v := .int v_199) G0 hw in_X12_unit_X12 rfl hr_200 (by decide) (by decide +kernel) rfl dX12_unit_36 ?_
      refine lv_iconst (v := 1) G0.1 G0.2.1 dX12_unit_39 (by decide) ?_
      refine lv_isub G0.1 G0.2.1 dX12_unit_40 ?_
      refine lv_topi (fun x_220 ex_220 => ?_)
      first | have tx_220 := ti_sub ex_220 (by omega -splitDisjunctions) (by omega -splitDisjunctions) | skip
      have tdd : mi f_207 u 4 = -1 → x_220.toInt = mi f_207 u 5 - 1 := fun q => by have tz := ti_sub ex_220 (by omega) (by omega); omega
      refine py_put (C := RX12) (T := TX12) (N := 54) (k := 5) (v := .int x_220) (fs' := [.int v_1, .ref (G.2 u 1), .int v_2, .int v_197, .int v_198, .int x_220, .ref (G.2 u 6), .ref (G.2 u 7), .ref (G.2 u 8), .ref (G.2 u 9), .ref (G.2 u 10), .ref (G.2 u 11), .ref (G.2 u 12), .int v_6, .int v_7, .ref (G.2 u 15), .ref (G.2 u 16), .ref (G.2 u 17), .ref (G.2 u 18), .int v_8, .int v_9, .ref (G.2 u 21), .ref (G.2 u 22), .ref (G.2 u 23), .int v_10, .int v_11, .ref (G.2 u 26), .ref (G.2 u 27), .ref (G.2 u 28), .int v_12, .long y_13, .int v_14, .int v_15, .int v_16, .int v_17, .ref (G.2 u 35), .ref (G.2 u 36), .ref (G.2 u 37), .ref (G.2 u 38), .ref (G.2 u 39), .ref (G.2 u 40), .ref (G.2 u 41), .ref (G.2 u 42), .int v_18, .ref (G.2 u 44), .ref (G.2 u 45), .ref (G.2 u 46), .ref (G.2 u 47), .long y_19, .ref (G.2 u 49), .ref (G.2 u 50), .int v_20, .long y_21, .int v_22]) (ty0 := tyX12) G0 hw tyX12_ok nmX12 in_X12_unit_X12 rfl hr_200 (by decide) (by decide +kernel) rfl rfl rfl rfl (Nat.le_of_ble_eq_true rfl) rfl dX12_unit_41 (fun f_221 H_222 locs h_223 x_224 hw => ?_)
      have hFK := hFK.put hr_200 h_223 5 (by decide) rfl
      have cq_225 := cdv_own (f1 := f_207) (f2 := f_221) hG hWF Tu x_224 (by have z1 := mi_row hr_200 14 rfl; have z2 := mi_row h_223 14 rfl; omega)
      have hTR := hTR.own hG hWF Tu x_224 (by have z1 := mi_row hr_200 14 rfl; have z2 := mi_row h_223 14 rfl; omega) (by intro q; have z1 := mi_row hr_200 4 rfl; have z2 := mi_row h_223 4 rfl; omega)
      have hKP := hKP.upd hWF x_224 Tu (Or.inl (by decide))
      have hWF := wf_upd hWF h_223 x_224 (by rw [Tu]; exact ⟨v_1, v_2, v_197, v_198, x_220, v_6, v_7, v_8, v_9, v_10, v_11, v_12, y_13, v_14, v_15, v_16, v_17, v_18, y_19, v_20, y_21, v_22, rfl, ⟨by omega, by omega⟩, ⟨by omega, by omega⟩, ⟨by omega, by omega⟩, ⟨by omega, by omega⟩, ⟨by omega, by omega⟩, ⟨by omega, by omega⟩, ⟨by omega, by omega⟩, ⟨by omega, by omega⟩, ⟨by omega, by omega⟩, ⟨by omega, by omega⟩, ⟨by omega, by omega⟩, ⟨by omega, by omega⟩⟩)
      have tq_226 := mi_row h_223 2 rfl
      have tq_227 := mi_row h_223 3 rfl
      have bv_197 := wf_free v_197
      have tq_228 := mi_row h_223 4 rfl
      have bv_198 := wf_free v_198
      have tq_229 := mi_row h_223 5 rfl
      have bx_220 := wf_free x_220
      have tq_230 := mi_row h_223 14 rfl
      refine lv_goto (tgt := 94) G0.1 G0.2.1 dX12_unit_44 (by decide) ?_
      exact py_vret G0 hr hlk hw ⟨(by first | omega | (intro q; omega)), (by first | omega | (intro q; omega)), hTR, hWF, hKP, hFK⟩ dX12_unit_94

set_option maxHeartbeats 4000000 in
set_option maxRecDepth 100000 in
theorem q_goOnAnd (l : Launch) (E : py_E) (G : wf_G) (hG : GT G) (wb : Int) (hwb : 0 ≤ wb) (fr lo : Nat) (hfr : 10 ≤ fr) (hlo : 300 ≤ lo) (f_unit l_unit : Nat) (x_unit : f_unit ≤ fr) (z_unit : l_unit ≤ lo) (ih_unit : Q_unit l E G wb f_unit l_unit) : Q_goOnAnd l E G wb (fr + 1) (lo + 60) := by
  intro L f sz u hWF Tu hp0
  refine Met.ofW (cc := cX12_goOnAnd) (maxL := 1) (ret := none) (by decide) rfl ?_
  intro p e s m args below meth c s₁ B hml hv
  obtain ⟨rfl, rfl, hw⟩ := py_start hv
  have G0 : CallFix p m c cX12_goOnAnd 1 s _ w_X12_goOnAnd RX12 := ⟨B.exec, B.bytes, hml, findClass_of_methodNamed B.named, atoms_spec (ws := w_X12_goOnAnd) B.pre⟩
  have hr := B.returns
  have hlk := B.notSynchronized
  have kcm1 : (-1 : Int32).toInt = -1 := rfl
  have kc0 : (0 : Int32).toInt = 0 := rfl
  have kc1 : (1 : Int32).toInt = 1 := rfl
  have kc10 : (10 : Int32).toInt = 10 := rfl
  have kc38 : (38 : Int32).toInt = 38 := rfl
  have hl := lv_entry ([.ref u]) (n := 1) (Nat.le_of_ble_eq_true rfl)
  rw [lg_entry_eq]
  generalize (lg_sl ([.ref u]) ++ List.replicate (1 - (lg_sl ([.ref u])).length) Slot.unset).toArray = ls at hl ⊢
  have hl : lv_has ls 1 [(0, .ref u)] := hl
  have hKP : KP G [41, 42, 43, 13] false f f := KP.refl
  have hFK : FK [3, 4, 5] f f u := FK.refl
  obtain ⟨v_1, v_2, v_3, v_4, v_5, v_6, v_7, v_8, v_9, v_10, v_11, v_12, y_13, v_14, v_15, v_16, v_17, v_18, y_19, v_20, y_21, v_22, hr_35, b_23, b_24, b_25, b_26, b_27, b_28, b_29, b_30, b_31, b_32, b_33, b_34⟩ := wg_12 hWF Tu
  have tq_36 := mi_row hr_35 2 rfl
  have tq_37 := mi_row hr_35 3 rfl
  have bv_3 := wf_free v_3
  have tq_38 := mi_row hr_35 4 rfl
  have bv_4 := wf_free v_4
  have tq_39 := mi_row hr_35 5 rfl
  have bv_5 := wf_free v_5
  have tq_40 := mi_row hr_35 14 rfl
  have hcd := cdv_rng hG hWF Tu (by omega) (by omega)
  have hTR : TR f f G u (19 - 2 * wb) 1 1 := TR.refl (by omega) (by omega)
  have lo_0 : ∀ n_0 : Nat, ∀ (L_j0 : List Nat) (f_j0 : py_F) (H_j0 : Heap) (locs : List Loc) (ls : Array Slot), (mi f u 2 - mi f_j0 u 3).toNat = n_0 → WF E G L_j0 f_j0 → KP G [41, 42, 43, 13] false f f_j0 → FK [3, 4, 5] f f_j0 u → TR f f_j0 G u (19 - 2 * wb) 1 1 → (mi f u 3 ≤ mi f_j0 u 3 ∧ cdv f_j0 G u - cdv f G u ≤ mi f_j0 u 3 - mi f u 3) → (mi f u 4 = -1 → mi f_j0 u 3 ≤ 167 - mi f u 5) → (mi f u 4 ≠ -1 → mi f_j0 u 3 = mi f u 3 ∧ mi f_j0 u 4 ≠ -1) → (mi f_j0 u 4 = -1 → mi f_j0 u 5 = mi f u 5 ∧ mi f_j0 u 3 ≤ mi f u 2) → (mi f_j0 u 2 = mi f u 2) → py_W E (va_A (va_pl L f) s.heap.size) s L_j0 f_j0 H_j0 locs → lv_has ls 1 [(0, .ref u)] → W p l e (headSpec w_X12_goOnAnd ({ frames := fr + 1, cells := 0, slots := 0, locals := lo + 60 })).room s m ([.ref u] : List Value).toArray below meth c H_j0 locs 0 0 (MQ below (py_Qv E L f s.heap.size (fun L1 f1 => (mi f u 3 ≤ mi f1 u 3 ∧ cdv f1 G u - cdv f G u ≤ mi f1 u 3 - mi f u 3) ∧ (mi f u 4 = -1 → mi f1 u 3 ≤ 167 - mi f u 5) ∧ (mi f u 4 ≠ -1 → mi f1 u 3 = mi f u 3 ∧ mi f1 u 4 ≠ -1) ∧ (mi f1 u 4 = -1 → mi f1 u 5 = mi f u 5 ∧ mi f1 u 3 ≤ mi f u 2) ∧ (TR f f1 G u (19 - 2 * wb) 1 1) ∧ WF E G L1 f1 ∧ KP G [41, 42, 43, 13] false f f1 ∧ FK [3, 4, 5] f f1 u)) ([.ref u] : List Value).toArray s 0 0 (va_A (va_pl L f) s.heap.size)) (F0 m 0 ls []) := by
    intro n_0
    induction n_0 using Nat.strongRecOn with
    | _ n_0 ih_0 =>
      intro L_j0 f_j0 H_j0 locs ls hn_0 hWF hKP hFK hTR iv0 iv1 iv2 iv3 iv4 hw hl
      refine lv_aload_n G0.1 G0.2.1 dX12_goOnAnd_0 rfl (lv_at hl 0 rfl) ?_
      obtain ⟨v_41, v_42, v_43, v_44, v_45, v_46, v_47, v_48, v_49, v_50, v_51, v_52, y_53, v_54, v_55, v_56, v_57, v_58, y_59, v_60, y_61, v_62, hr_75, b_63, b_64, b_65, b_66, b_67, b_68, b_69, b_70, b_71, b_72, b_73, b_74⟩ := wg_12 hWF Tu
      have tq_76 := mi_row hr_75 2 rfl
      have tq_77 := mi_row hr_75 3 rfl
      have bv_43 := wf_free v_43
      have tq_78 := mi_row hr_75 4 rfl
      have bv_44 := wf_free v_44
      have tq_79 := mi_row hr_75 5 rfl
      have bv_45 := wf_free v_45
      have tq_80 := mi_row hr_75 14 rfl
      refine py_get (C := RX12) (T := TX12) (N := 54) (k := 4) (v := .int v_44) G0 hw in_X12_goOnAnd_X12 rfl hr_75 (by decide) (by decide +kernel) rfl dX12_goOnAnd_1 ?_
      refine lv_iconst (v := (-1)) G0.1 G0.2.1 dX12_goOnAnd_4 (by decide) ?_
      refine lv_icmp_ne (tgt := 41) G0.1 G0.2.1 dX12_goOnAnd_5 (by decide) (fun c_81 => ?_) (fun c_81 => ?_)
      · skip
        have tc_81 := ti_ne c_81
        exact py_vret G0 hr hlk hw ⟨(by first | omega | (intro q; omega)), (by first | omega | (intro q; omega)), (by first | omega | (intro q; omega)), (by first | omega | (intro q; omega)), hTR, hWF, hKP, hFK⟩ dX12_goOnAnd_41
      · skip
        have tc_81 := ti_eq c_81
        refine lv_aload_n G0.1 G0.2.1 dX12_goOnAnd_8 rfl (lv_at hl 0 rfl) ?_
        refine py_calli hw (va_runV (As := []) (rest := []) G0 (c_X12_look l E G L_j0 f_j0 H_j0.size u hG hWF Tu (show 0 ≤ mi f_j0 u 3 ∧ mi f_j0 u 3 ≤ mi f_j0 u 2 by omega)) (cwV 0 G0.2.2.2.2 g_X12_goOnAnd_X12_look_146 rfl rfl rfl (by decide +kernel) ⟨(show 1 + 1 ≤ fr + 1 by omega), (show 8 + (1 + 11) + 20 ≤ lo + 60 by omega)⟩) (py_preV hw (C := RX12) (T := TX12) (N := 54) rfl hr_75) rfl rfl hl.1 rfl (lv_room (Nat.le_of_ble_eq_true rfl)) dX12_goOnAnd_9 ⟨(Nat.le_of_ble_eq_true rfl), (Nat.le_of_ble_eq_true rfl)⟩) (fun r_86 L_82 f_83 H_84 locs hp_85 hw => ?_)
        obtain ⟨en_87, en_88, en_89, hWF, kp_90, fk_91⟩ := hp_85
        have cq_92 := cdv_k hG Tu kp_90 fk_91 (by decide)
        have hFK := hFK.trans fk_91 (by decide)
        have hKP := hKP.trans kp_90 (by decide) (by decide)
        obtain ⟨v_93, hr_94⟩ := fk_3 hWF Tu fk_91 hr_75
        have tq_95 := mi_row hr_94 2 rfl
        have tq_96 := mi_row hr_94 3 rfl
        have bv_93 := wf_free v_93
        have tq_97 := mi_row hr_94 4 rfl
        have bv_44 := wf_free v_44
        have tq_98 := mi_row hr_94 5 rfl
        have bv_45 := wf_free v_45
        have tq_99 := mi_row hr_94 14 rfl
        have hTR := hTR.kp hG Tu kp_90 fk_91 (by decide) (fun q => by omega)
        have br_86 := wf_free r_86
        refine lv_bipush (v := 38) G0.1 G0.2.1 dX12_goOnAnd_12 (by decide) ?_
        refine lv_icmp_ne (tgt := 41) G0.1 G0.2.1 dX12_goOnAnd_14 (by decide) (fun c_100 => ?_) (fun c_100 => ?_)
        · skip
          have tc_100 := ti_ne c_100
          exact py_vret G0 hr hlk hw ⟨(by first | omega | (intro q; omega)), (by first | omega | (intro q; omega)), (by first | omega | (intro q; omega)), (by first | omega | (intro q; omega)), hTR, hWF, hKP, hFK⟩ dX12_goOnAnd_41
        · skip
          have tc_100 := ti_eq c_100
          replace en_88 := en_88 (by omega)
          refine lv_aload_n G0.1 G0.2.1 dX12_goOnAnd_17 rfl (lv_at hl 0 rfl) ?_
          refine lv_dup G0.1 G0.2.1 dX12_goOnAnd_18 rfl ?_
          refine py_get (C := RX12) (T := TX12) (N := 54) (k := 3) (v := .int v_93) G0 hw in_X12_goOnAnd_X12 rfl hr_94 (by decide) (by decide +kernel) rfl dX12_goOnAnd_19 ?_
          refine lv_iconst (v := 1) G0.1 G0.2.1 dX12_goOnAnd_22 (by decide) ?_
          refine lv_iadd G0.1 G0.2.1 dX12_goOnAnd_23 ?_
          refine lv_topi (fun x_101 ex_101 => ?_)
          first | have tx_101 := ti_add ex_101 (by omega -splitDisjunctions) (by omega -splitDisjunctions) | skip
          refine py_put (C := RX12) (T := TX12) (N := 54) (k := 3) (v := .int x_101) (fs' := [.int v_41, .ref (G.2 u 1), .int v_42, .int x_101, .int v_44, .int v_45, .ref (G.2 u 6), .ref (G.2 u 7), .ref (G.2 u 8), .ref (G.2 u 9), .ref (G.2 u 10), .ref (G.2 u 11), .ref (G.2 u 12), .int v_46, .int v_47, .ref (G.2 u 15), .ref (G.2 u 16), .ref (G.2 u 17), .ref (G.2 u 18), .int v_48, .int v_49, .ref (G.2 u 21), .ref (G.2 u 22), .ref (G.2 u 23), .int v_50, .int v_51, .ref (G.2 u 26), .ref (G.2 u 27), .ref (G.2 u 28), .int v_52, .long y_53, .int v_54, .int v_55, .int v_56, .int v_57, .ref (G.2 u 35), .ref (G.2 u 36), .ref (G.2 u 37), .ref (G.2 u 38), .ref (G.2 u 39), .ref (G.2 u 40), .ref (G.2 u 41), .ref (G.2 u 42), .int v_58, .ref (G.2 u 44), .ref (G.2 u 45), .ref (G.2 u 46), .ref (G.2 u 47), .long y_59, .ref (G.2 u 49), .ref (G.2 u 50), .int v_60, .long y_61, .int v_62]) (ty0 := tyX12) G0 hw tyX12_ok nmX12 in_X12_goOnAnd_X12 rfl hr_94 (by decide) (by decide +kernel) rfl rfl rfl rfl (Nat.le_of_ble_eq_true rfl) rfl dX12_goOnAnd_24 (fun f_102 H_103 locs h_104 x_105 hw => ?_)
          have hFK := hFK.put hr_94 h_104 3 (by decide) rfl
          have cq_106 := cdv_own (f1 := f_83) (f2 := f_102) hG hWF Tu x_105 (by have z1 := mi_row hr_94 14 rfl; have z2 := mi_row h_104 14 rfl; omega)
          have hTR := hTR.own hG hWF Tu x_105 (by have z1 := mi_row hr_94 14 rfl; have z2 := mi_row h_104 14 rfl; omega) (by intro q; have z1 := mi_row hr_94 4 rfl; have z2 := mi_row h_104 4 rfl; omega)
          have hKP := hKP.upd hWF x_105 Tu (Or.inl (by decide))
          have hWF := wf_upd hWF h_104 x_105 (by rw [Tu]; exact ⟨v_41, v_42, x_101, v_44, v_45, v_46, v_47, v_48, v_49, v_50, v_51, v_52, y_53, v_54, v_55, v_56, v_57, v_58, y_59, v_60, y_61, v_62, rfl, ⟨by omega, by omega⟩, ⟨by omega, by omega⟩, ⟨by omega, by omega⟩, ⟨by omega, by omega⟩, ⟨by omega, by omega⟩, ⟨by omega, by omega⟩, ⟨by omega, by omega⟩, ⟨by omega, by omega⟩, ⟨by omega, by omega⟩, ⟨by omega, by omega⟩, ⟨by omega, by omega⟩, ⟨by omega, by omega⟩⟩)
          have tq_107 := mi_row h_104 2 rfl
          have tq_108 := mi_row h_104 3 rfl
          have bx_101 := wf_free x_101
          have tq_109 := mi_row h_104 4 rfl
          have bv_44 := wf_free v_44
          have tq_110 := mi_row h_104 5 rfl
          have bv_45 := wf_free v_45
          have tq_111 := mi_row h_104 14 rfl
          refine lv_aload_n G0.1 G0.2.1 dX12_goOnAnd_27 rfl (lv_at hl 0 rfl) ?_
          refine py_callv hw (va_runV (As := []) (rest := []) G0 (ih_unit L_82 f_102 H_103.size u hWF Tu (show mi f_102 u 4 = -1 ∧ wb ≤ mi f_102 u 5 ∧ mi f_102 u 5 ≤ 6 ∧ 0 ≤ mi f_102 u 3 ∧ mi f_102 u 3 ≤ mi f_102 u 2 ∧ cdv f_102 G u ≤ mi f_102 u 3 by omega)) (cwV 0 G0.2.2.2.2 g_X12_goOnAnd_X12_unit_183 rfl rfl rfl (by decide +kernel) ⟨(show f_unit + 1 ≤ fr + 1 by omega), (show 8 + (2 + 11) + l_unit ≤ lo + 60 by omega)⟩) (py_preV hw (C := RX12) (T := TX12) (N := 54) rfl h_104) rfl rfl hl.1 rfl (lv_room (Nat.le_of_ble_eq_true rfl)) dX12_goOnAnd_28 ⟨(Nat.le_of_ble_eq_true rfl), (Nat.le_of_ble_eq_true rfl)⟩) (fun L_112 f_113 H_114 locs hp_115 hw => ?_)
          obtain ⟨en_117, en_118, en_119, hWF, kp_120, fk_121⟩ := hp_115
          have hFK := hFK.trans fk_121 (by decide)
          have hKP := hKP.trans kp_120 (by decide) (by decide)
          obtain ⟨v_122, v_123, v_124, hr_125⟩ := fk_3_4_5 hWF Tu fk_121 h_104
          have tq_126 := mi_row hr_125 2 rfl
          have tq_127 := mi_row hr_125 3 rfl
          have bv_122 := wf_free v_122
          have tq_128 := mi_row hr_125 4 rfl
          have bv_123 := wf_free v_123
          have tq_129 := mi_row hr_125 5 rfl
          have bv_124 := wf_free v_124
          have tq_130 := mi_row hr_125 14 rfl
          have hTR : TR f f_113 G u (19 - 2 * wb) 1 2 := hTR.trans (en_119.lift (b := 1) (by omega) (by omega) (by omega) (by omega)) (fun q => by omega)
          refine lv_aload_n G0.1 G0.2.1 dX12_goOnAnd_31 rfl (lv_at hl 0 rfl) ?_
          refine lv_bipush (v := 10) G0.1 G0.2.1 dX12_goOnAnd_32 (by decide) ?_
          refine lv_iconst (v := 0) G0.1 G0.2.1 dX12_goOnAnd_34 (by decide) ?_
          refine py_callv hw (va_runV (As := [.int 10, .int 0]) (rest := []) G0 (c_X12_put l E G L_112 f_113 H_114.size u 10 0 hG hWF Tu (show cdv f_113 G u ≤ 339 by omega)) (cwV 2 G0.2.2.2.2 g_X12_goOnAnd_X12_put_156 rfl rfl rfl (by decide +kernel) ⟨(show 0 + 1 ≤ fr + 1 by omega), (show 8 + (3 + 11) + 0 ≤ lo + 60 by omega)⟩) (py_preV hw (C := RX12) (T := TX12) (N := 54) rfl hr_125) rfl rfl hl.1 rfl (lv_room (Nat.le_of_ble_eq_true rfl)) dX12_goOnAnd_35 ⟨(Nat.le_of_ble_eq_true rfl), (Nat.le_of_ble_eq_true rfl)⟩) (fun L_131 f_132 H_133 locs hp_134 hw => ?_)
          obtain ⟨en_136, en_137, hWF, kp_138, fk_139⟩ := hp_134
          have en_136 : PT f_113 f_132 G u (10 : Int32) (0 : Int32) := en_136
          have hFK := hFK.trans fk_139 (by decide)
          have hKP := hKP.trans kp_138 (by decide) (by decide)
          have hr_125 := kp_at kp_138 hWF Tu (by decide) (by decide) (by decide) hr_125
          have tq_140 := mi_row hr_125 2 rfl
          have tq_141 := mi_row hr_125 3 rfl
          have bv_122 := wf_free v_122
          have tq_142 := mi_row hr_125 4 rfl
          have bv_123 := wf_free v_123
          have tq_143 := mi_row hr_125 5 rfl
          have bv_124 := wf_free v_124
          have tq_144 := mi_row hr_125 14 rfl
          have hTR : TR f f_132 G u (19 - 2 * wb) 1 1 := hTR.trans (en_136.tr (by omega)) (fun q => by omega)
          refine lv_goto (tgt := 0) G0.1 G0.2.1 dX12_goOnAnd_38 (by decide) ?_
          exact ih_0 ((mi f u 2 - mi f_132 u 3).toNat) (by omega) L_131 f_132 _ _ ls rfl hWF hKP hFK hTR (by first | omega | (intros; omega)) (by first | omega | (intros; omega)) (by first | omega | (intros; omega)) (by first | omega | (intros; omega)) (by first | omega | (intros; omega)) hw (lv_sub hl [0] rfl)
  exact lo_0 _ L f _ _ ls rfl hWF hKP hFK hTR (by first | omega | (intros; omega)) (by first | omega | (intros; omega)) (by first | omega | (intros; omega)) (by first | omega | (intros; omega)) (by first | omega | (intros; omega)) hw (lv_sub hl [0] rfl)

set_option maxHeartbeats 4000000 in
set_option maxRecDepth 100000 in
theorem q_goOnOr (l : Launch) (E : py_E) (G : wf_G) (hG : GT G) (wb : Int) (hwb : 0 ≤ wb) (fr lo : Nat) (hfr : 10 ≤ fr) (hlo : 300 ≤ lo) (f_unit l_unit : Nat) (x_unit : f_unit ≤ fr) (z_unit : l_unit ≤ lo) (ih_unit : Q_unit l E G wb f_unit l_unit) (f_goOnAnd l_goOnAnd : Nat) (x_goOnAnd : f_goOnAnd ≤ fr) (z_goOnAnd : l_goOnAnd ≤ lo) (ih_goOnAnd : Q_goOnAnd l E G wb f_goOnAnd l_goOnAnd) : Q_goOnOr l E G wb (fr + 1) (lo + 60) := by
  intro L f sz u hWF Tu hp0
  refine Met.ofW (cc := cX12_goOnOr) (maxL := 1) (ret := none) (by decide) rfl ?_
  intro p e s m args below meth c s₁ B hml hv
  obtain ⟨rfl, rfl, hw⟩ := py_start hv
  have G0 : CallFix p m c cX12_goOnOr 1 s _ w_X12_goOnOr RX12 := ⟨B.exec, B.bytes, hml, findClass_of_methodNamed B.named, atoms_spec (ws := w_X12_goOnOr) B.pre⟩
  have hr := B.returns
  have hlk := B.notSynchronized
  have kcm1 : (-1 : Int32).toInt = -1 := rfl
  have kc0 : (0 : Int32).toInt = 0 := rfl
  have kc1 : (1 : Int32).toInt = 1 := rfl
  have kc11 : (11 : Int32).toInt = 11 := rfl
  have kc124 : (124 : Int32).toInt = 124 := rfl
  have hl := lv_entry ([.ref u]) (n := 1) (Nat.le_of_ble_eq_true rfl)
  rw [lg_entry_eq]
  generalize (lg_sl ([.ref u]) ++ List.replicate (1 - (lg_sl ([.ref u])).length) Slot.unset).toArray = ls at hl ⊢
  have hl : lv_has ls 1 [(0, .ref u)] := hl
  have hKP : KP G [41, 42, 43, 13] false f f := KP.refl
  have hFK : FK [3, 4, 5] f f u := FK.refl
  obtain ⟨v_1, v_2, v_3, v_4, v_5, v_6, v_7, v_8, v_9, v_10, v_11, v_12, y_13, v_14, v_15, v_16, v_17, v_18, y_19, v_20, y_21, v_22, hr_35, b_23, b_24, b_25, b_26, b_27, b_28, b_29, b_30, b_31, b_32, b_33, b_34⟩ := wg_12 hWF Tu
  have tq_36 := mi_row hr_35 2 rfl
  have tq_37 := mi_row hr_35 3 rfl
  have bv_3 := wf_free v_3
  have tq_38 := mi_row hr_35 4 rfl
  have bv_4 := wf_free v_4
  have tq_39 := mi_row hr_35 5 rfl
  have bv_5 := wf_free v_5
  have tq_40 := mi_row hr_35 14 rfl
  have hcd := cdv_rng hG hWF Tu (by omega) (by omega)
  have hTR : TR f f G u (20 - 2 * wb) 1 1 := TR.refl (by omega) (by omega)
  have lo_0 : ∀ n_0 : Nat, ∀ (L_j0 : List Nat) (f_j0 : py_F) (H_j0 : Heap) (locs : List Loc) (ls : Array Slot), (mi f u 2 - mi f_j0 u 3).toNat = n_0 → WF E G L_j0 f_j0 → KP G [41, 42, 43, 13] false f f_j0 → FK [3, 4, 5] f f_j0 u → TR f f_j0 G u (20 - 2 * wb) 1 1 → (mi f u 3 ≤ mi f_j0 u 3 ∧ cdv f_j0 G u - cdv f G u ≤ mi f_j0 u 3 - mi f u 3) → (mi f u 4 = -1 → mi f_j0 u 3 ≤ 167 - mi f u 5) → (mi f u 4 ≠ -1 → mi f_j0 u 3 = mi f u 3 ∧ mi f_j0 u 4 ≠ -1) → (mi f_j0 u 4 = -1 → mi f_j0 u 5 = mi f u 5 ∧ mi f_j0 u 3 ≤ mi f u 2) → (mi f_j0 u 2 = mi f u 2) → py_W E (va_A (va_pl L f) s.heap.size) s L_j0 f_j0 H_j0 locs → lv_has ls 1 [(0, .ref u)] → W p l e (headSpec w_X12_goOnOr ({ frames := fr + 1, cells := 0, slots := 0, locals := lo + 60 })).room s m ([.ref u] : List Value).toArray below meth c H_j0 locs 0 0 (MQ below (py_Qv E L f s.heap.size (fun L1 f1 => (mi f u 3 ≤ mi f1 u 3 ∧ cdv f1 G u - cdv f G u ≤ mi f1 u 3 - mi f u 3) ∧ (mi f u 4 = -1 → mi f1 u 3 ≤ 167 - mi f u 5) ∧ (mi f u 4 ≠ -1 → mi f1 u 3 = mi f u 3 ∧ mi f1 u 4 ≠ -1) ∧ (mi f1 u 4 = -1 → mi f1 u 5 = mi f u 5 ∧ mi f1 u 3 ≤ mi f u 2) ∧ (TR f f1 G u (20 - 2 * wb) 1 1) ∧ WF E G L1 f1 ∧ KP G [41, 42, 43, 13] false f f1 ∧ FK [3, 4, 5] f f1 u)) ([.ref u] : List Value).toArray s 0 0 (va_A (va_pl L f) s.heap.size)) (F0 m 0 ls []) := by
    intro n_0
    induction n_0 using Nat.strongRecOn with
    | _ n_0 ih_0 =>
      intro L_j0 f_j0 H_j0 locs ls hn_0 hWF hKP hFK hTR iv0 iv1 iv2 iv3 iv4 hw hl
      refine lv_aload_n G0.1 G0.2.1 dX12_goOnOr_0 rfl (lv_at hl 0 rfl) ?_
      obtain ⟨v_41, v_42, v_43, v_44, v_45, v_46, v_47, v_48, v_49, v_50, v_51, v_52, y_53, v_54, v_55, v_56, v_57, v_58, y_59, v_60, y_61, v_62, hr_75, b_63, b_64, b_65, b_66, b_67, b_68, b_69, b_70, b_71, b_72, b_73, b_74⟩ := wg_12 hWF Tu
      have tq_76 := mi_row hr_75 2 rfl
      have tq_77 := mi_row hr_75 3 rfl
      have bv_43 := wf_free v_43
      have tq_78 := mi_row hr_75 4 rfl
      have bv_44 := wf_free v_44
      have tq_79 := mi_row hr_75 5 rfl
      have bv_45 := wf_free v_45
      have tq_80 := mi_row hr_75 14 rfl
      refine py_get (C := RX12) (T := TX12) (N := 54) (k := 4) (v := .int v_44) G0 hw in_X12_goOnOr_X12 rfl hr_75 (by decide) (by decide +kernel) rfl dX12_goOnOr_1 ?_
      refine lv_iconst (v := (-1)) G0.1 G0.2.1 dX12_goOnOr_4 (by decide) ?_
      refine lv_icmp_ne (tgt := 45) G0.1 G0.2.1 dX12_goOnOr_5 (by decide) (fun c_81 => ?_) (fun c_81 => ?_)
      · skip
        have tc_81 := ti_ne c_81
        exact py_vret G0 hr hlk hw ⟨(by first | omega | (intro q; omega)), (by first | omega | (intro q; omega)), (by first | omega | (intro q; omega)), (by first | omega | (intro q; omega)), hTR, hWF, hKP, hFK⟩ dX12_goOnOr_45
      · skip
        have tc_81 := ti_eq c_81
        refine lv_aload_n G0.1 G0.2.1 dX12_goOnOr_8 rfl (lv_at hl 0 rfl) ?_
        refine py_calli hw (va_runV (As := []) (rest := []) G0 (c_X12_look l E G L_j0 f_j0 H_j0.size u hG hWF Tu (show 0 ≤ mi f_j0 u 3 ∧ mi f_j0 u 3 ≤ mi f_j0 u 2 by omega)) (cwV 0 G0.2.2.2.2 g_X12_goOnOr_X12_look_146 rfl rfl rfl (by decide +kernel) ⟨(show 1 + 1 ≤ fr + 1 by omega), (show 8 + (1 + 11) + 20 ≤ lo + 60 by omega)⟩) (py_preV hw (C := RX12) (T := TX12) (N := 54) rfl hr_75) rfl rfl hl.1 rfl (lv_room (Nat.le_of_ble_eq_true rfl)) dX12_goOnOr_9 ⟨(Nat.le_of_ble_eq_true rfl), (Nat.le_of_ble_eq_true rfl)⟩) (fun r_86 L_82 f_83 H_84 locs hp_85 hw => ?_)
        obtain ⟨en_87, en_88, en_89, hWF, kp_90, fk_91⟩ := hp_85
        have cq_92 := cdv_k hG Tu kp_90 fk_91 (by decide)
        have hFK := hFK.trans fk_91 (by decide)
        have hKP := hKP.trans kp_90 (by decide) (by decide)
        obtain ⟨v_93, hr_94⟩ := fk_3 hWF Tu fk_91 hr_75
        have tq_95 := mi_row hr_94 2 rfl
        have tq_96 := mi_row hr_94 3 rfl
        have bv_93 := wf_free v_93
        have tq_97 := mi_row hr_94 4 rfl
        have bv_44 := wf_free v_44
        have tq_98 := mi_row hr_94 5 rfl
        have bv_45 := wf_free v_45
        have tq_99 := mi_row hr_94 14 rfl
        have hTR := hTR.kp hG Tu kp_90 fk_91 (by decide) (fun q => by omega)
        have br_86 := wf_free r_86
        refine lv_bipush (v := 124) G0.1 G0.2.1 dX12_goOnOr_12 (by decide) ?_
        refine lv_icmp_ne (tgt := 45) G0.1 G0.2.1 dX12_goOnOr_14 (by decide) (fun c_100 => ?_) (fun c_100 => ?_)
        · skip
          have tc_100 := ti_ne c_100
          exact py_vret G0 hr hlk hw ⟨(by first | omega | (intro q; omega)), (by first | omega | (intro q; omega)), (by first | omega | (intro q; omega)), (by first | omega | (intro q; omega)), hTR, hWF, hKP, hFK⟩ dX12_goOnOr_45
        · skip
          have tc_100 := ti_eq c_100
          replace en_88 := en_88 (by omega)
          refine lv_aload_n G0.1 G0.2.1 dX12_goOnOr_17 rfl (lv_at hl 0 rfl) ?_
          refine lv_dup G0.1 G0.2.1 dX12_goOnOr_18 rfl ?_
          refine py_get (C := RX12) (T := TX12) (N := 54) (k := 3) (v := .int v_93) G0 hw in_X12_goOnOr_X12 rfl hr_94 (by decide) (by decide +kernel) rfl dX12_goOnOr_19 ?_
          refine lv_iconst (v := 1) G0.1 G0.2.1 dX12_goOnOr_22 (by decide) ?_
          refine lv_iadd G0.1 G0.2.1 dX12_goOnOr_23 ?_
          refine lv_topi (fun x_101 ex_101 => ?_)
          first | have tx_101 := ti_add ex_101 (by omega -splitDisjunctions) (by omega -splitDisjunctions) | skip
          refine py_put (C := RX12) (T := TX12) (N := 54) (k := 3) (v := .int x_101) (fs' := [.int v_41, .ref (G.2 u 1), .int v_42, .int x_101, .int v_44, .int v_45, .ref (G.2 u 6), .ref (G.2 u 7), .ref (G.2 u 8), .ref (G.2 u 9), .ref (G.2 u 10), .ref (G.2 u 11), .ref (G.2 u 12), .int v_46, .int v_47, .ref (G.2 u 15), .ref (G.2 u 16), .ref (G.2 u 17), .ref (G.2 u 18), .int v_48, .int v_49, .ref (G.2 u 21), .ref (G.2 u 22), .ref (G.2 u 23), .int v_50, .int v_51, .ref (G.2 u 26), .ref (G.2 u 27), .ref (G.2 u 28), .int v_52, .long y_53, .int v_54, .int v_55, .int v_56, .int v_57, .ref (G.2 u 35), .ref (G.2 u 36), .ref (G.2 u 37), .ref (G.2 u 38), .ref (G.2 u 39), .ref (G.2 u 40), .ref (G.2 u 41), .ref (G.2 u 42), .int v_58, .ref (G.2 u 44), .ref (G.2 u 45), .ref (G.2 u 46), .ref (G.2 u 47), .long y_59, .ref (G.2 u 49), .ref (G.2 u 50), .int v_60, .long y_61, .int v_62]) (ty0 := tyX12) G0 hw tyX12_ok nmX12 in_X12_goOnOr_X12 rfl hr_94 (by decide) (by decide +kernel) rfl rfl rfl rfl (Nat.le_of_ble_eq_true rfl) rfl dX12_goOnOr_24 (fun f_102 H_103 locs h_104 x_105 hw => ?_)
          have hFK := hFK.put hr_94 h_104 3 (by decide) rfl
          have cq_106 := cdv_own (f1 := f_83) (f2 := f_102) hG hWF Tu x_105 (by have z1 := mi_row hr_94 14 rfl; have z2 := mi_row h_104 14 rfl; omega)
          have hTR := hTR.own hG hWF Tu x_105 (by have z1 := mi_row hr_94 14 rfl; have z2 := mi_row h_104 14 rfl; omega) (by intro q; have z1 := mi_row hr_94 4 rfl; have z2 := mi_row h_104 4 rfl; omega)
          have hKP := hKP.upd hWF x_105 Tu (Or.inl (by decide))
          have hWF := wf_upd hWF h_104 x_105 (by rw [Tu]; exact ⟨v_41, v_42, x_101, v_44, v_45, v_46, v_47, v_48, v_49, v_50, v_51, v_52, y_53, v_54, v_55, v_56, v_57, v_58, y_59, v_60, y_61, v_62, rfl, ⟨by omega, by omega⟩, ⟨by omega, by omega⟩, ⟨by omega, by omega⟩, ⟨by omega, by omega⟩, ⟨by omega, by omega⟩, ⟨by omega, by omega⟩, ⟨by omega, by omega⟩, ⟨by omega, by omega⟩, ⟨by omega, by omega⟩, ⟨by omega, by omega⟩, ⟨by omega, by omega⟩, ⟨by omega, by omega⟩⟩)
          have tq_107 := mi_row h_104 2 rfl
          have tq_108 := mi_row h_104 3 rfl
          have bx_101 := wf_free x_101
          have tq_109 := mi_row h_104 4 rfl
          have bv_44 := wf_free v_44
          have tq_110 := mi_row h_104 5 rfl
          have bv_45 := wf_free v_45
          have tq_111 := mi_row h_104 14 rfl
          refine lv_aload_n G0.1 G0.2.1 dX12_goOnOr_27 rfl (lv_at hl 0 rfl) ?_
          refine py_callv hw (va_runV (As := []) (rest := []) G0 (ih_unit L_82 f_102 H_103.size u hWF Tu (show mi f_102 u 4 = -1 ∧ wb ≤ mi f_102 u 5 ∧ mi f_102 u 5 ≤ 6 ∧ 0 ≤ mi f_102 u 3 ∧ mi f_102 u 3 ≤ mi f_102 u 2 ∧ cdv f_102 G u ≤ mi f_102 u 3 by omega)) (cwV 0 G0.2.2.2.2 g_X12_goOnOr_X12_unit_183 rfl rfl rfl (by decide +kernel) ⟨(show f_unit + 1 ≤ fr + 1 by omega), (show 8 + (2 + 11) + l_unit ≤ lo + 60 by omega)⟩) (py_preV hw (C := RX12) (T := TX12) (N := 54) rfl h_104) rfl rfl hl.1 rfl (lv_room (Nat.le_of_ble_eq_true rfl)) dX12_goOnOr_28 ⟨(Nat.le_of_ble_eq_true rfl), (Nat.le_of_ble_eq_true rfl)⟩) (fun L_112 f_113 H_114 locs hp_115 hw => ?_)
          obtain ⟨en_117, en_118, en_119, hWF, kp_120, fk_121⟩ := hp_115
          have hFK := hFK.trans fk_121 (by decide)
          have hKP := hKP.trans kp_120 (by decide) (by decide)
          obtain ⟨v_122, v_123, v_124, hr_125⟩ := fk_3_4_5 hWF Tu fk_121 h_104
          have tq_126 := mi_row hr_125 2 rfl
          have tq_127 := mi_row hr_125 3 rfl
          have bv_122 := wf_free v_122
          have tq_128 := mi_row hr_125 4 rfl
          have bv_123 := wf_free v_123
          have tq_129 := mi_row hr_125 5 rfl
          have bv_124 := wf_free v_124
          have tq_130 := mi_row hr_125 14 rfl
          have hTR : TR f f_113 G u (20 - 2 * wb) 1 2 := hTR.trans (en_119.lift (b := 1) (by omega) (by omega) (by omega) (by omega)) (fun q => by omega)
          refine lv_aload_n G0.1 G0.2.1 dX12_goOnOr_31 rfl (lv_at hl 0 rfl) ?_
          refine py_callv hw (va_runV (As := []) (rest := []) G0 (ih_goOnAnd L_112 f_113 H_114.size u hWF Tu (show (mi f_113 u 4 = -1 → wb ≤ mi f_113 u 5 ∧ mi f_113 u 5 ≤ 6 ∧ mi f_113 u 3 ≤ mi f_113 u 2) ∧ 0 ≤ mi f_113 u 3 ∧ cdv f_113 G u ≤ mi f_113 u 3 by omega)) (cwV 0 G0.2.2.2.2 g_X12_goOnOr_X12_goOnAnd_192 rfl rfl rfl (by decide +kernel) ⟨(show f_goOnAnd + 1 ≤ fr + 1 by omega), (show 8 + (1 + 11) + l_goOnAnd ≤ lo + 60 by omega)⟩) (py_preV hw (C := RX12) (T := TX12) (N := 54) rfl hr_125) rfl rfl hl.1 rfl (lv_room (Nat.le_of_ble_eq_true rfl)) dX12_goOnOr_32 ⟨(Nat.le_of_ble_eq_true rfl), (Nat.le_of_ble_eq_true rfl)⟩) (fun L_131 f_132 H_133 locs hp_134 hw => ?_)
          obtain ⟨en_136, en_137, en_138, en_139, en_140, hWF, kp_141, fk_142⟩ := hp_134
          have hFK := hFK.trans fk_142 (by decide)
          have hKP := hKP.trans kp_141 (by decide) (by decide)
          obtain ⟨v_143, v_144, v_145, hr_146⟩ := fk_3_4_5 hWF Tu fk_142 hr_125
          have tq_147 := mi_row hr_146 2 rfl
          have tq_148 := mi_row hr_146 3 rfl
          have bv_143 := wf_free v_143
          have tq_149 := mi_row hr_146 4 rfl
          have bv_144 := wf_free v_144
          have tq_150 := mi_row hr_146 5 rfl
          have bv_145 := wf_free v_145
          have tq_151 := mi_row hr_146 14 rfl
          have hTR : TR f f_132 G u (20 - 2 * wb) 1 2 := hTR.trans (en_140.lift (b := 1) (by omega) (by omega) (by omega) (by omega)) (fun q => by omega)
          refine lv_aload_n G0.1 G0.2.1 dX12_goOnOr_35 rfl (lv_at hl 0 rfl) ?_
          refine lv_bipush (v := 11) G0.1 G0.2.1 dX12_goOnOr_36 (by decide) ?_
          refine lv_iconst (v := 0) G0.1 G0.2.1 dX12_goOnOr_38 (by decide) ?_
          refine py_callv hw (va_runV (As := [.int 11, .int 0]) (rest := []) G0 (c_X12_put l E G L_131 f_132 H_133.size u 11 0 hG hWF Tu (show cdv f_132 G u ≤ 339 by omega)) (cwV 2 G0.2.2.2.2 g_X12_goOnOr_X12_put_156 rfl rfl rfl (by decide +kernel) ⟨(show 0 + 1 ≤ fr + 1 by omega), (show 8 + (3 + 11) + 0 ≤ lo + 60 by omega)⟩) (py_preV hw (C := RX12) (T := TX12) (N := 54) rfl hr_146) rfl rfl hl.1 rfl (lv_room (Nat.le_of_ble_eq_true rfl)) dX12_goOnOr_39 ⟨(Nat.le_of_ble_eq_true rfl), (Nat.le_of_ble_eq_true rfl)⟩) (fun L_152 f_153 H_154 locs hp_155 hw => ?_)
          obtain ⟨en_157, en_158, hWF, kp_159, fk_160⟩ := hp_155
          have en_157 : PT f_132 f_153 G u (11 : Int32) (0 : Int32) := en_157
          have hFK := hFK.trans fk_160 (by decide)
          have hKP := hKP.trans kp_159 (by decide) (by decide)
          have hr_146 := kp_at kp_159 hWF Tu (by decide) (by decide) (by decide) hr_146
          have tq_161 := mi_row hr_146 2 rfl
          have tq_162 := mi_row hr_146 3 rfl
          have bv_143 := wf_free v_143
          have tq_163 := mi_row hr_146 4 rfl
          have bv_144 := wf_free v_144
          have tq_164 := mi_row hr_146 5 rfl
          have bv_145 := wf_free v_145
          have tq_165 := mi_row hr_146 14 rfl
          have hTR : TR f f_153 G u (20 - 2 * wb) 1 1 := hTR.trans (en_157.tr (by omega)) (fun q => by omega)
          refine lv_goto (tgt := 0) G0.1 G0.2.1 dX12_goOnOr_42 (by decide) ?_
          exact ih_0 ((mi f u 2 - mi f_153 u 3).toNat) (by omega) L_152 f_153 _ _ ls rfl hWF hKP hFK hTR (by first | omega | (intros; omega)) (by first | omega | (intros; omega)) (by first | omega | (intros; omega)) (by first | omega | (intros; omega)) (by first | omega | (intros; omega)) hw (lv_sub hl [0] rfl)
  exact lo_0 _ L f _ _ ls rfl hWF hKP hFK hTR (by first | omega | (intros; omega)) (by first | omega | (intros; omega)) (by first | omega | (intros; omega)) (by first | omega | (intros; omega)) (by first | omega | (intros; omega)) hw (lv_sub hl [0] rfl)

set_option maxHeartbeats 4000000 in
set_option maxRecDepth 100000 in
theorem q_condition (l : Launch) (E : py_E) (G : wf_G) (hG : GT G) (wb : Int) (hwb : 0 ≤ wb) (fr lo : Nat) (hfr : 10 ≤ fr) (hlo : 300 ≤ lo) (f_unit l_unit : Nat) (x_unit : f_unit ≤ fr) (z_unit : l_unit ≤ lo) (ih_unit : Q_unit l E G wb f_unit l_unit) (f_goOnAnd l_goOnAnd : Nat) (x_goOnAnd : f_goOnAnd ≤ fr) (z_goOnAnd : l_goOnAnd ≤ lo) (ih_goOnAnd : Q_goOnAnd l E G wb f_goOnAnd l_goOnAnd) (f_goOnOr l_goOnOr : Nat) (x_goOnOr : f_goOnOr ≤ fr) (z_goOnOr : l_goOnOr ≤ lo) (ih_goOnOr : Q_goOnOr l E G wb f_goOnOr l_goOnOr) : Q_condition l E G wb (fr + 1) (lo + 60) := by
  intro L f sz u hWF Tu hp0
  refine Met.ofW (cc := cX12_condition) (maxL := 1) (ret := none) (by decide) rfl ?_
  intro p e s m args below meth c s₁ B hml hv
  obtain ⟨rfl, rfl, hw⟩ := py_start hv
  have G0 : CallFix p m c cX12_condition 1 s _ w_X12_condition RX12 := ⟨B.exec, B.bytes, hml, findClass_of_methodNamed B.named, atoms_spec (ws := w_X12_condition) B.pre⟩
  have hr := B.returns
  have hlk := B.notSynchronized
  have kcm1 : (-1 : Int32).toInt = -1 := rfl
  have kc0 : (0 : Int32).toInt = 0 := rfl
  have kc1 : (1 : Int32).toInt = 1 := rfl
  have hl := lv_entry ([.ref u]) (n := 1) (Nat.le_of_ble_eq_true rfl)
  rw [lg_entry_eq]
  generalize (lg_sl ([.ref u]) ++ List.replicate (1 - (lg_sl ([.ref u])).length) Slot.unset).toArray = ls at hl ⊢
  have hl : lv_has ls 1 [(0, .ref u)] := hl
  have hKP : KP G [41, 42, 43, 13] false f f := KP.refl
  have hFK : FK [3, 4, 5] f f u := FK.refl
  obtain ⟨v_1, v_2, v_3, v_4, v_5, v_6, v_7, v_8, v_9, v_10, v_11, v_12, y_13, v_14, v_15, v_16, v_17, v_18, y_19, v_20, y_21, v_22, hr_35, b_23, b_24, b_25, b_26, b_27, b_28, b_29, b_30, b_31, b_32, b_33, b_34⟩ := wg_12 hWF Tu
  have tq_36 := mi_row hr_35 2 rfl
  have tq_37 := mi_row hr_35 3 rfl
  have bv_3 := wf_free v_3
  have tq_38 := mi_row hr_35 4 rfl
  have bv_4 := wf_free v_4
  have tq_39 := mi_row hr_35 5 rfl
  have bv_5 := wf_free v_5
  have tq_40 := mi_row hr_35 14 rfl
  have hcd := cdv_rng hG hWF Tu (by omega) (by omega)
  have hTR : TR f f G u (20 - 2 * wb) 0 0 := TR.refl (by omega) (by omega)
  refine lv_aload_n G0.1 G0.2.1 dX12_condition_0 rfl (lv_at hl 0 rfl) ?_
  refine py_callv hw (va_runV (As := []) (rest := []) G0 (ih_unit L f s.heap.size u hWF Tu (show mi f u 4 = -1 ∧ wb ≤ mi f u 5 ∧ mi f u 5 ≤ 6 ∧ 0 ≤ mi f u 3 ∧ mi f u 3 ≤ mi f u 2 ∧ cdv f G u ≤ mi f u 3 by omega)) (cwV 0 G0.2.2.2.2 g_X12_condition_X12_unit_183 rfl rfl rfl (by decide +kernel) ⟨(show f_unit + 1 ≤ fr + 1 by omega), (show 8 + (2 + 11) + l_unit ≤ lo + 60 by omega)⟩) (py_preV hw (C := RX12) (T := TX12) (N := 54) rfl hr_35) rfl rfl hl.1 rfl (lv_room (Nat.le_of_ble_eq_true rfl)) dX12_condition_1 ⟨(Nat.le_of_ble_eq_true rfl), (Nat.le_of_ble_eq_true rfl)⟩) (fun L_41 f_42 H_43 locs hp_44 hw => ?_)
  obtain ⟨en_46, en_47, en_48, hWF, kp_49, fk_50⟩ := hp_44
  have hFK := hFK.trans fk_50 (by decide)
  have hKP := hKP.trans kp_49 (by decide) (by decide)
  obtain ⟨v_51, v_52, v_53, hr_54⟩ := fk_3_4_5 hWF Tu fk_50 hr_35
  have tq_55 := mi_row hr_54 2 rfl
  have tq_56 := mi_row hr_54 3 rfl
  have bv_51 := wf_free v_51
  have tq_57 := mi_row hr_54 4 rfl
  have bv_52 := wf_free v_52
  have tq_58 := mi_row hr_54 5 rfl
  have bv_53 := wf_free v_53
  have tq_59 := mi_row hr_54 14 rfl
  have hTR : TR f f_42 G u (20 - 2 * wb) 0 1 := hTR.trans (en_48.lift (b := 0) (by omega) (by omega) (by omega) (by omega)) (fun q => by omega)
  refine lv_aload_n G0.1 G0.2.1 dX12_condition_4 rfl (lv_at hl 0 rfl) ?_
  refine py_callv hw (va_runV (As := []) (rest := []) G0 (ih_goOnAnd L_41 f_42 H_43.size u hWF Tu (show (mi f_42 u 4 = -1 → wb ≤ mi f_42 u 5 ∧ mi f_42 u 5 ≤ 6 ∧ mi f_42 u 3 ≤ mi f_42 u 2) ∧ 0 ≤ mi f_42 u 3 ∧ cdv f_42 G u ≤ mi f_42 u 3 by omega)) (cwV 0 G0.2.2.2.2 g_X12_condition_X12_goOnAnd_192 rfl rfl rfl (by decide +kernel) ⟨(show f_goOnAnd + 1 ≤ fr + 1 by omega), (show 8 + (1 + 11) + l_goOnAnd ≤ lo + 60 by omega)⟩) (py_preV hw (C := RX12) (T := TX12) (N := 54) rfl hr_54) rfl rfl hl.1 rfl (lv_room (Nat.le_of_ble_eq_true rfl)) dX12_condition_5 ⟨(Nat.le_of_ble_eq_true rfl), (Nat.le_of_ble_eq_true rfl)⟩) (fun L_60 f_61 H_62 locs hp_63 hw => ?_)
  obtain ⟨en_65, en_66, en_67, en_68, en_69, hWF, kp_70, fk_71⟩ := hp_63
  have hFK := hFK.trans fk_71 (by decide)
  have hKP := hKP.trans kp_70 (by decide) (by decide)
  obtain ⟨v_72, v_73, v_74, hr_75⟩ := fk_3_4_5 hWF Tu fk_71 hr_54
  have tq_76 := mi_row hr_75 2 rfl
  have tq_77 := mi_row hr_75 3 rfl
  have bv_72 := wf_free v_72
  have tq_78 := mi_row hr_75 4 rfl
  have bv_73 := wf_free v_73
  have tq_79 := mi_row hr_75 5 rfl
  have bv_74 := wf_free v_74
  have tq_80 := mi_row hr_75 14 rfl
  have hTR : TR f f_61 G u (20 - 2 * wb) 0 1 := hTR.trans (en_69.lift (b := 0) (by omega) (by omega) (by omega) (by omega)) (fun q => by omega)
  refine lv_aload_n G0.1 G0.2.1 dX12_condition_8 rfl (lv_at hl 0 rfl) ?_
  refine py_callv hw (va_runV (As := []) (rest := []) G0 (ih_goOnOr L_60 f_61 H_62.size u hWF Tu (show (mi f_61 u 4 = -1 → wb ≤ mi f_61 u 5 ∧ mi f_61 u 5 ≤ 6 ∧ mi f_61 u 3 ≤ mi f_61 u 2) ∧ 0 ≤ mi f_61 u 3 ∧ cdv f_61 G u ≤ mi f_61 u 3 by omega)) (cwV 0 G0.2.2.2.2 g_X12_condition_X12_goOnOr_195 rfl rfl rfl (by decide +kernel) ⟨(show f_goOnOr + 1 ≤ fr + 1 by omega), (show 8 + (1 + 11) + l_goOnOr ≤ lo + 60 by omega)⟩) (py_preV hw (C := RX12) (T := TX12) (N := 54) rfl hr_75) rfl rfl hl.1 rfl (lv_room (Nat.le_of_ble_eq_true rfl)) dX12_condition_9 ⟨(Nat.le_of_ble_eq_true rfl), (Nat.le_of_ble_eq_true rfl)⟩) (fun L_81 f_82 H_83 locs hp_84 hw => ?_)
  obtain ⟨en_86, en_87, en_88, en_89, en_90, hWF, kp_91, fk_92⟩ := hp_84
  have hFK := hFK.trans fk_92 (by decide)
  have hKP := hKP.trans kp_91 (by decide) (by decide)
  obtain ⟨v_93, v_94, v_95, hr_96⟩ := fk_3_4_5 hWF Tu fk_92 hr_75
  have tq_97 := mi_row hr_96 2 rfl
  have tq_98 := mi_row hr_96 3 rfl
  have bv_93 := wf_free v_93
  have tq_99 := mi_row hr_96 4 rfl
  have bv_94 := wf_free v_94
  have tq_100 := mi_row hr_96 5 rfl
  have bv_95 := wf_free v_95
  have tq_101 := mi_row hr_96 14 rfl
  have hTR : TR f f_82 G u (20 - 2 * wb) 0 1 := hTR.trans (en_90.lift (b := 0) (by omega) (by omega) (by omega) (by omega)) (fun q => by omega)
  exact py_vret G0 hr hlk hw ⟨(by first | omega | (intro q; omega)), (by first | omega | (intro q; omega)), hTR, hWF, hKP, hFK⟩ dX12_condition_12

theorem rq_step (l : Launch) (E : py_E) (G : wf_G) (hG : GT G) (wb wc : Int) (hwb : 0 ≤ wb) (hwc : wc = wb + 1) (fr lo fs ls fu lu fc lc : Nat) (hfr : 10 ≤ fr) (hlo : 300 ≤ lo) (a0 : fs ≤ fr) (a1 : ls ≤ lo) (a2 : fu ≤ fr) (a3 : lu ≤ lo) (a4 : fc ≤ fr) (a5 : lc ≤ lo) (hs : Q_sum l E G wc fs ls) (hu : Q_unit l E G wc fu lu) (hc : Q_condition l E G wc fc lc) : Q_sum l E G wb (fr + 3) (lo + 180) ∧ Q_compare l E G wb (fr + 4) (lo + 240) ∧ Q_unit l E G wb (fr + 5) (lo + 300) ∧ Q_goOnAnd l E G wb (fr + 6) (lo + 360) ∧ Q_goOnOr l E G wb (fr + 7) (lo + 420) ∧ Q_condition l E G wb (fr + 8) (lo + 480) := by
  subst hwc
  have g_atom : Q_atom l E G wb (fr + 1) (lo + 60) := q_atom l E G hG wb (by omega) (fr + 0) (lo + 0) (by omega) (by omega) _ _ (by omega) (by omega) hs
  have g_term : Q_term l E G wb (fr + 2) (lo + 120) := q_term l E G hG wb (by omega) (fr + 1) (lo + 60) (by omega) (by omega) _ _ (by omega) (by omega) g_atom
  have g_sum : Q_sum l E G wb (fr + 3) (lo + 180) := q_sum l E G hG wb (by omega) (fr + 2) (lo + 120) (by omega) (by omega) _ _ (by omega) (by omega) g_term
  have g_compare : Q_compare l E G wb (fr + 4) (lo + 240) := q_compare l E G hG wb (by omega) (fr + 3) (lo + 180) (by omega) (by omega) _ _ (by omega) (by omega) g_sum
  have g_unit : Q_unit l E G wb (fr + 5) (lo + 300) := q_unit l E G hG wb (by omega) (fr + 4) (lo + 240) (by omega) (by omega) _ _ (by omega) (by omega) hu _ _ (by omega) (by omega) hc _ _ (by omega) (by omega) g_sum _ _ (by omega) (by omega) g_compare
  have g_goOnAnd : Q_goOnAnd l E G wb (fr + 6) (lo + 360) := q_goOnAnd l E G hG wb (by omega) (fr + 5) (lo + 300) (by omega) (by omega) _ _ (by omega) (by omega) g_unit
  have g_goOnOr : Q_goOnOr l E G wb (fr + 7) (lo + 420) := q_goOnOr l E G hG wb (by omega) (fr + 6) (lo + 360) (by omega) (by omega) _ _ (by omega) (by omega) g_unit _ _ (by omega) (by omega) g_goOnAnd
  have g_condition : Q_condition l E G wb (fr + 8) (lo + 480) := q_condition l E G hG wb (by omega) (fr + 7) (lo + 420) (by omega) (by omega) _ _ (by omega) (by omega) g_unit _ _ (by omega) (by omega) g_goOnAnd _ _ (by omega) (by omega) g_goOnOr
  exact ⟨g_sum, g_compare, g_unit, g_goOnAnd, g_goOnOr, g_condition⟩
theorem rq_all (l : Launch) (E : py_E) (G : wf_G) (hG : GT G) : Q_sum l E G 0 61 3360 ∧ Q_compare l E G 0 62 3420 ∧ Q_unit l E G 0 63 3480 ∧ Q_goOnAnd l E G 0 64 3540 ∧ Q_goOnOr l E G 0 65 3600 ∧ Q_condition l E G 0 66 3660 := by
  have v_sum : Q_sum l E G 7 10 300 := fun L f sz u hWF Tu hp0 => absurd hp0.2.1 (by omega)
  have v_unit : Q_unit l E G 7 10 300 := fun L f sz u hWF Tu hp0 => absurd hp0.2.1 (by omega)
  have v_condition : Q_condition l E G 7 10 300 := fun L f sz u hWF Tu hp0 => absurd hp0.2.1 (by omega)
  have s6 := rq_step l E G hG 6 7 (by omega) rfl 10 300 _ _ _ _ _ _ (by omega) (by omega) (by omega) (by omega) (by omega) (by omega) (by omega) (by omega) v_sum v_unit v_condition
  have s5 := rq_step l E G hG 5 6 (by omega) rfl 18 780 _ _ _ _ _ _ (by omega) (by omega) (by omega) (by omega) (by omega) (by omega) (by omega) (by omega) s6.1 s6.2.2.1 s6.2.2.2.2.2
  have s4 := rq_step l E G hG 4 5 (by omega) rfl 26 1260 _ _ _ _ _ _ (by omega) (by omega) (by omega) (by omega) (by omega) (by omega) (by omega) (by omega) s5.1 s5.2.2.1 s5.2.2.2.2.2
  have s3 := rq_step l E G hG 3 4 (by omega) rfl 34 1740 _ _ _ _ _ _ (by omega) (by omega) (by omega) (by omega) (by omega) (by omega) (by omega) (by omega) s4.1 s4.2.2.1 s4.2.2.2.2.2
  have s2 := rq_step l E G hG 2 3 (by omega) rfl 42 2220 _ _ _ _ _ _ (by omega) (by omega) (by omega) (by omega) (by omega) (by omega) (by omega) (by omega) s3.1 s3.2.2.1 s3.2.2.2.2.2
  have s1 := rq_step l E G hG 1 2 (by omega) rfl 50 2700 _ _ _ _ _ _ (by omega) (by omega) (by omega) (by omega) (by omega) (by omega) (by omega) (by omega) s2.1 s2.2.2.1 s2.2.2.2.2.2
  have s0 := rq_step l E G hG 0 1 (by omega) rfl 58 3180 _ _ _ _ _ _ (by omega) (by omega) (by omega) (by omega) (by omega) (by omega) (by omega) (by omega) s1.1 s1.2.2.1 s1.2.2.2.2.2
  exact s0
theorem rq_sum (l : Launch) (E : py_E) (G : wf_G) (hG : GT G) : Q_sum l E G 0 61 3360 := (rq_all l E G hG).1
theorem rq_compare (l : Launch) (E : py_E) (G : wf_G) (hG : GT G) : Q_compare l E G 0 62 3420 := (rq_all l E G hG).2.1
theorem rq_unit (l : Launch) (E : py_E) (G : wf_G) (hG : GT G) : Q_unit l E G 0 63 3480 := (rq_all l E G hG).2.2.1
theorem rq_goOnAnd (l : Launch) (E : py_E) (G : wf_G) (hG : GT G) : Q_goOnAnd l E G 0 64 3540 := (rq_all l E G hG).2.2.2.1
theorem rq_goOnOr (l : Launch) (E : py_E) (G : wf_G) (hG : GT G) : Q_goOnOr l E G 0 65 3600 := (rq_all l E G hG).2.2.2.2.1
theorem rq_condition (l : Launch) (E : py_E) (G : wf_G) (hG : GT G) : Q_condition l E G 0 66 3660 := (rq_all l E G hG).2.2.2.2.2
