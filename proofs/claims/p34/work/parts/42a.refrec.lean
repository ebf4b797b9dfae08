theorem dX12_atom_0 : decode cX12_atom 0 = .ok (.aload_n 0, 1) := by decide +kernel
theorem dX12_atom_1 : decode cX12_atom 1 = .ok (.invokevirtual 146, 3) := by decide +kernel
theorem dX12_atom_4 : decode cX12_atom 4 = .ok (.istore_n 1, 1) := by decide +kernel
theorem dX12_atom_5 : decode cX12_atom 5 = .ok (.iload_n 1, 1) := by decide +kernel
theorem dX12_atom_6 : decode cX12_atom 6 = .ok (.invokestatic 149, 3) := by decide +kernel
theorem dX12_atom_9 : decode cX12_atom 9 = .ok (.ifCond .eq 15, 3) := by decide +kernel
theorem dX12_atom_12 : decode cX12_atom 12 = .ok (.aload_n 0, 1) := by decide +kernel
theorem dX12_atom_13 : decode cX12_atom 13 = .ok (.iconst 0, 1) := by decide +kernel
theorem dX12_atom_14 : decode cX12_atom 14 = .ok (.aload_n 0, 1) := by decide +kernel
theorem dX12_atom_15 : decode cX12_atom 15 = .ok (.invokevirtual 153, 3) := by decide +kernel
theorem dX12_atom_18 : decode cX12_atom 18 = .ok (.invokevirtual 156, 3) := by decide +kernel
theorem dX12_atom_21 : decode cX12_atom 21 = .ok (.goto 68, 3) := by decide +kernel
theorem dX12_atom_24 : decode cX12_atom 24 = .ok (.iload_n 1, 1) := by decide +kernel
theorem dX12_atom_25 : decode cX12_atom 25 = .ok (.invokestatic 160, 3) := by decide +kernel
theorem dX12_atom_28 : decode cX12_atom 28 = .ok (.iconst (-1), 1) := by decide +kernel
theorem dX12_atom_29 : decode cX12_atom 29 = .ok (.if_icmp .eq 25, 3) := by decide +kernel
theorem dX12_atom_32 : decode cX12_atom 32 = .ok (.aload_n 0, 1) := by decide +kernel
theorem dX12_atom_33 : decode cX12_atom 33 = .ok (.dup, 1) := by decide +kernel
theorem dX12_atom_34 : decode cX12_atom 34 = .ok (.getfield 127, 3) := by decide +kernel
theorem dX12_atom_37 : decode cX12_atom 37 = .ok (.iconst 1, 1) := by decide +kernel
theorem dX12_atom_38 : decode cX12_atom 38 = .ok (.iadd, 1) := by decide +kernel
theorem dX12_atom_39 : decode cX12_atom 39 = .ok (.putfield 127, 3) := by decide +kernel
theorem dX12_atom_42 : decode cX12_atom 42 = .ok (.aload_n 0, 1) := by decide +kernel
theorem dX12_atom_43 : decode cX12_atom 43 = .ok (.iconst 1, 1) := by decide +kernel
theorem dX12_atom_44 : decode cX12_atom 44 = .ok (.iload_n 1, 1) := by decide +kernel
theorem dX12_atom_45 : decode cX12_atom 45 = .ok (.invokestatic 160, 3) := by decide +kernel
theorem dX12_atom_48 : decode cX12_atom 48 = .ok (.invokevirtual 156, 3) := by decide +kernel
theorem dX12_atom_51 : decode cX12_atom 51 = .ok (.goto 38, 3) := by decide +kernel
theorem dX12_atom_54 : decode cX12_atom 54 = .ok (.iload_n 1, 1) := by decide +kernel
theorem dX12_atom_55 : decode cX12_atom 55 = .ok (.bipush 91, 2) := by decide +kernel
theorem dX12_atom_57 : decode cX12_atom 57 = .ok (.if_icmp .ne 28, 3) := by decide +kernel
theorem dX12_atom_60 : decode cX12_atom 60 = .ok (.aload_n 0, 1) := by decide +kernel
theorem dX12_atom_61 : decode cX12_atom 61 = .ok (.invokevirtual 164, 3) := by decide +kernel
theorem dX12_atom_64 : decode cX12_atom 64 = .ok (.aload_n 0, 1) := by decide +kernel
theorem dX12_atom_65 : decode cX12_atom 65 = .ok (.getfield 134, 3) := by decide +kernel
theorem dX12_atom_68 : decode cX12_atom 68 = .ok (.iconst (-1), 1) := by decide +kernel
theorem dX12_atom_69 : decode cX12_atom 69 = .ok (.if_icmp .ne 20, 3) := by decide +kernel
theorem dX12_atom_72 : decode cX12_atom 72 = .ok (.aload_n 0, 1) := by decide +kernel
theorem dX12_atom_73 : decode cX12_atom 73 = .ok (.invokevirtual 167, 3) := by decide +kernel
theorem dX12_atom_76 : decode cX12_atom 76 = .ok (.aload_n 0, 1) := by decide +kernel
theorem dX12_atom_77 : decode cX12_atom 77 = .ok (.bipush 93, 2) := by decide +kernel
theorem dX12_atom_79 : decode cX12_atom 79 = .ok (.invokevirtual 170, 3) := by decide +kernel
theorem dX12_atom_82 : decode cX12_atom 82 = .ok (.goto 7, 3) := by decide +kernel
theorem dX12_atom_85 : decode cX12_atom 85 = .ok (.aload_n 0, 1) := by decide +kernel
theorem dX12_atom_86 : decode cX12_atom 86 = .ok (.invokevirtual 143, 3) := by decide +kernel
theorem dX12_atom_89 : decode cX12_atom 89 = .ok (.return_, 1) := by decide +kernel
theorem dX12_compare_0 : decode cX12_compare 0 = .ok (.aload_n 0, 1) := by decide +kernel
theorem dX12_compare_1 : decode cX12_compare 1 = .ok (.getfield 134, 3) := by decide +kernel
theorem dX12_compare_4 : decode cX12_compare 4 = .ok (.iconst (-1), 1) := by decide +kernel
theorem dX12_compare_5 : decode cX12_compare 5 = .ok (.if_icmp .ne 10, 3) := by decide +kernel
theorem dX12_compare_8 : decode cX12_compare 8 = .ok (.aload_n 0, 1) := by decide +kernel
theorem dX12_compare_9 : decode cX12_compare 9 = .ok (.invokevirtual 146, 3) := by decide +kernel
theorem dX12_compare_12 : decode cX12_compare 12 = .ok (.goto 4, 3) := by decide +kernel
theorem dX12_compare_15 : decode cX12_compare 15 = .ok (.iconst (-1), 1) := by decide +kernel
theorem dX12_compare_16 : decode cX12_compare 16 = .ok (.istore_n 1, 1) := by decide +kernel
theorem dX12_compare_17 : decode cX12_compare 17 = .ok (.iload_n 1, 1) := by decide +kernel
theorem dX12_compare_18 : decode cX12_compare 18 = .ok (.invokestatic 180, 3) := by decide +kernel
theorem dX12_compare_21 : decode cX12_compare 21 = .ok (.ifCond .ne 8, 3) := by decide +kernel
theorem dX12_compare_24 : decode cX12_compare 24 = .ok (.aload_n 0, 1) := by decide +kernel
theorem dX12_compare_25 : decode cX12_compare 25 = .ok (.invokevirtual 143, 3) := by decide +kernel
theorem dX12_compare_28 : decode cX12_compare 28 = .ok (.return_, 1) := by decide +kernel
theorem dX12_compare_29 : decode cX12_compare 29 = .ok (.aload_n 0, 1) := by decide +kernel
theorem dX12_compare_30 : decode cX12_compare 30 = .ok (.dup, 1) := by decide +kernel
theorem dX12_compare_31 : decode cX12_compare 31 = .ok (.getfield 127, 3) := by decide +kernel
theorem dX12_compare_34 : decode cX12_compare 34 = .ok (.iconst 1, 1) := by decide +kernel
theorem dX12_compare_35 : decode cX12_compare 35 = .ok (.iadd, 1) := by decide +kernel
theorem dX12_compare_36 : decode cX12_compare 36 = .ok (.putfield 127, 3) := by decide +kernel
theorem dX12_compare_39 : decode cX12_compare 39 = .ok (.aload_n 0, 1) := by decide +kernel
theorem dX12_compare_40 : decode cX12_compare 40 = .ok (.invokevirtual 167, 3) := by decide +kernel
theorem dX12_compare_43 : decode cX12_compare 43 = .ok (.aload_n 0, 1) := by decide +kernel
theorem dX12_compare_44 : decode cX12_compare 44 = .ok (.iload_n 1, 1) := by decide +kernel
theorem dX12_compare_45 : decode cX12_compare 45 = .ok (.bipush 61, 2) := by decide +kernel
theorem dX12_compare_47 : decode cX12_compare 47 = .ok (.if_icmp .ne 8, 3) := by decide +kernel
theorem dX12_compare_50 : decode cX12_compare 50 = .ok (.bipush 6, 2) := by decide +kernel
theorem dX12_compare_52 : decode cX12_compare 52 = .ok (.goto 16, 3) := by decide +kernel
theorem dX12_compare_55 : decode cX12_compare 55 = .ok (.iload_n 1, 1) := by decide +kernel
theorem dX12_compare_56 : decode cX12_compare 56 = .ok (.bipush 60, 2) := by decide +kernel
theorem dX12_compare_58 : decode cX12_compare 58 = .ok (.if_icmp .ne 8, 3) := by decide +kernel
theorem dX12_compare_61 : decode cX12_compare 61 = .ok (.bipush 7, 2) := by decide +kernel
theorem dX12_compare_63 : decode cX12_compare 63 = .ok (.goto 5, 3) := by decide +kernel
theorem dX12_compare_66 : decode cX12_compare 66 = .ok (.bipush 8, 2) := by decide +kernel
theorem dX12_compare_68 : decode cX12_compare 68 = .ok (.iconst 0, 1) := by decide +kernel
theorem dX12_compare_69 : decode cX12_compare 69 = .ok (.invokevirtual 156, 3) := by decide +kernel
theorem dX12_compare_72 : decode cX12_compare 72 = .ok (.return_, 1) := by decide +kernel
theorem dX12_condition_0 : decode cX12_condition 0 = .ok (.aload_n 0, 1) := by decide +kernel
theorem dX12_condition_1 : decode cX12_condition 1 = .ok (.invokevirtual 183, 3) := by decide +kernel
theorem dX12_condition_4 : decode cX12_condition 4 = .ok (.aload_n 0, 1) := by decide +kernel
theorem dX12_condition_5 : decode cX12_condition 5 = .ok (.invokevirtual 192, 3) := by decide +kernel
theorem dX12_condition_8 : decode cX12_condition 8 = .ok (.aload_n 0, 1) := by decide +kernel
theorem dX12_condition_9 : decode cX12_condition 9 = .ok (.invokevirtual 195, 3) := by decide +kernel
theorem dX12_condition_12 : decode cX12_condition 12 = .ok (.return_, 1) := by decide +kernel
theorem dX12_goOnAnd_0 : decode cX12_goOnAnd 0 = .ok (.aload_n 0, 1) := by decide +kernel
theorem dX12_goOnAnd_1 : decode cX12_goOnAnd 1 = .ok (.getfield 134, 3) := by decide +kernel
theorem dX12_goOnAnd_4 : decode cX12_goOnAnd 4 = .ok (.iconst (-1), 1) := by decide +kernel
theorem dX12_goOnAnd_5 : decode cX12_goOnAnd 5 = .ok (.if_icmp .ne 36, 3) := by decide +kernel
theorem dX12_goOnAnd_8 : decode cX12_goOnAnd 8 = .ok (.aload_n 0, 1) := by decide +kernel
theorem dX12_goOnAnd_9 : decode cX12_goOnAnd 9 = .ok (.invokevirtual 146, 3) := by decide +kernel
theorem dX12_goOnAnd_12 : decode cX12_goOnAnd 12 = .ok (.bipush 38, 2) := by decide +kernel
theorem dX12_goOnAnd_14 : decode cX12_goOnAnd 14 = .ok (.if_icmp .ne 27, 3) := by decide +kernel
theorem dX12_goOnAnd_17 : decode cX12_goOnAnd 17 = .ok (.aload_n 0, 1) := by decide +kernel
theorem dX12_goOnAnd_18 : decode cX12_goOnAnd 18 = .ok (.dup, 1) := by decide +kernel
theorem dX12_goOnAnd_19 : decode cX12_goOnAnd 19 = .ok (.getfield 127, 3) := by decide +kernel
theorem dX12_goOnAnd_22 : decode cX12_goOnAnd 22 = .ok (.iconst 1, 1) := by decide +kernel
theorem dX12_goOnAnd_23 : decode cX12_goOnAnd 23 = .ok (.iadd, 1) := by decide +kernel
theorem dX12_goOnAnd_24 : decode cX12_goOnAnd 24 = .ok (.putfield 127, 3) := by decide +kernel
theorem dX12_goOnAnd_27 : decode cX12_goOnAnd 27 = .ok (.aload_n 0, 1) := by decide +kernel
theorem dX12_goOnAnd_28 : decode cX12_goOnAnd 28 = .ok (.invokevirtual 183, 3) := by decide +kernel
theorem dX12_goOnAnd_31 : decode cX12_goOnAnd 31 = .ok (.aload_n 0, 1) := by decide +kernel
theorem dX12_goOnAnd_32 : decode cX12_goOnAnd 32 = .ok (.bipush 10, 2) := by decide +kernel
theorem dX12_goOnAnd_34 : decode cX12_goOnAnd 34 = .ok (.iconst 0, 1) := by decide +kernel
theorem dX12_goOnAnd_35 : decode cX12_goOnAnd 35 = .ok (.invokevirtual 156, 3) := by decide +kernel
theorem dX12_goOnAnd_38 : decode cX12_goOnAnd 38 = .ok (.goto (-38), 3) := by decide +kernel
theorem dX12_goOnAnd_41 : decode cX12_goOnAnd 41 = .ok (.return_, 1) := by decide +kernel
theorem dX12_goOnOr_0 : decode cX12_goOnOr 0 = .ok (.aload_n 0, 1) := by decide +kernel
theorem dX12_goOnOr_1 : decode cX12_goOnOr 1 = .ok (.getfield 134, 3) := by decide +kernel
theorem dX12_goOnOr_4 : decode cX12_goOnOr 4 = .ok (.iconst (-1), 1) := by decide +kernel
theorem dX12_goOnOr_5 : decode cX12_goOnOr 5 = .ok (.if_icmp .ne 40, 3) := by decide +kernel
theorem dX12_goOnOr_8 : decode cX12_goOnOr 8 = .ok (.aload_n 0, 1) := by decide +kernel
theorem dX12_goOnOr_9 : decode cX12_goOnOr 9 = .ok (.invokevirtual 146, 3) := by decide +kernel
theorem dX12_goOnOr_12 : decode cX12_goOnOr 12 = .ok (.bipush 124, 2) := by decide +kernel
theorem dX12_goOnOr_14 : decode cX12_goOnOr 14 = .ok (.if_icmp .ne 31, 3) := by decide +kernel
theorem dX12_goOnOr_17 : decode cX12_goOnOr 17 = .ok (.aload_n 0, 1) := by decide +kernel
theorem dX12_goOnOr_18 : decode cX12_goOnOr 18 = .ok (.dup, 1) := by decide +kernel
theorem dX12_goOnOr_19 : decode cX12_goOnOr 19 = .ok (.getfield 127, 3) := by decide +kernel
theorem dX12_goOnOr_22 : decode cX12_goOnOr 22 = .ok (.iconst 1, 1) := by decide +kernel
theorem dX12_goOnOr_23 : decode cX12_goOnOr 23 = .ok (.iadd, 1) := by decide +kernel
theorem dX12_goOnOr_24 : decode cX12_goOnOr 24 = .ok (.putfield 127, 3) := by decide +kernel
theorem dX12_goOnOr_27 : decode cX12_goOnOr 27 = .ok (.aload_n 0, 1) := by decide +kernel
theorem dX12_goOnOr_28 : decode cX12_goOnOr 28 = .ok (.invokevirtual 183, 3) := by decide +kernel
theorem dX12_goOnOr_31 : decode cX12_goOnOr 31 = .ok (.aload_n 0, 1) := by decide +kernel
theorem dX12_goOnOr_32 : decode cX12_goOnOr 32 = .ok (.invokevirtual 192, 3) := by decide +kernel
theorem dX12_goOnOr_35 : decode cX12_goOnOr 35 = .ok (.aload_n 0, 1) := by decide +kernel
theorem dX12_goOnOr_36 : decode cX12_goOnOr 36 = .ok (.bipush 11, 2) := by decide +kernel
theorem dX12_goOnOr_38 : decode cX12_goOnOr 38 = .ok (.iconst 0, 1) := by decide +kernel
theorem dX12_goOnOr_39 : decode cX12_goOnOr 39 = .ok (.invokevirtual 156, 3) := by decide +kernel
theorem dX12_goOnOr_42 : decode cX12_goOnOr 42 = .ok (.goto (-42), 3) := by decide +kernel
theorem dX12_goOnOr_45 : decode cX12_goOnOr 45 = .ok (.return_, 1) := by decide +kernel
theorem dX12_sum_0 : decode cX12_sum 0 = .ok (.aload_n 0, 1) := by decide +kernel
theorem dX12_sum_1 : decode cX12_sum 1 = .ok (.invokevirtual 177, 3) := by decide +kernel
theorem dX12_sum_4 : decode cX12_sum 4 = .ok (.aload_n 0, 1) := by decide +kernel
theorem dX12_sum_5 : decode cX12_sum 5 = .ok (.getfield 134, 3) := by decide +kernel
theorem dX12_sum_8 : decode cX12_sum 8 = .ok (.iconst (-1), 1) := by decide +kernel
theorem dX12_sum_9 : decode cX12_sum 9 = .ok (.if_icmp .ne 10, 3) := by decide +kernel
theorem dX12_sum_12 : decode cX12_sum 12 = .ok (.aload_n 0, 1) := by decide +kernel
theorem dX12_sum_13 : decode cX12_sum 13 = .ok (.invokevirtual 146, 3) := by decide +kernel
theorem dX12_sum_16 : decode cX12_sum 16 = .ok (.goto 4, 3) := by decide +kernel
theorem dX12_sum_19 : decode cX12_sum 19 = .ok (.iconst (-1), 1) := by decide +kernel
theorem dX12_sum_20 : decode cX12_sum 20 = .ok (.istore_n 1, 1) := by decide +kernel
theorem dX12_sum_21 : decode cX12_sum 21 = .ok (.iload_n 1, 1) := by decide +kernel
theorem dX12_sum_22 : decode cX12_sum 22 = .ok (.bipush 43, 2) := by decide +kernel
theorem dX12_sum_24 : decode cX12_sum 24 = .ok (.if_icmp .eq 9, 3) := by decide +kernel
theorem dX12_sum_27 : decode cX12_sum 27 = .ok (.iload_n 1, 1) := by decide +kernel
theorem dX12_sum_28 : decode cX12_sum 28 = .ok (.bipush 45, 2) := by decide +kernel
theorem dX12_sum_30 : decode cX12_sum 30 = .ok (.if_icmp .ne 53, 3) := by decide +kernel
theorem dX12_sum_33 : decode cX12_sum 33 = .ok (.aload_n 0, 1) := by decide +kernel
theorem dX12_sum_34 : decode cX12_sum 34 = .ok (.dup, 1) := by decide +kernel
theorem dX12_sum_35 : decode cX12_sum 35 = .ok (.getfield 127, 3) := by decide +kernel
theorem dX12_sum_38 : decode cX12_sum 38 = .ok (.iconst 1, 1) := by decide +kernel
theorem dX12_sum_39 : decode cX12_sum 39 = .ok (.iadd, 1) := by decide +kernel
theorem dX12_sum_40 : decode cX12_sum 40 = .ok (.putfield 127, 3) := by decide +kernel
theorem dX12_sum_43 : decode cX12_sum 43 = .ok (.aload_n 0, 1) := by decide +kernel
theorem dX12_sum_44 : decode cX12_sum 44 = .ok (.invokevirtual 177, 3) := by decide +kernel
theorem dX12_sum_47 : decode cX12_sum 47 = .ok (.aload_n 0, 1) := by decide +kernel
theorem dX12_sum_48 : decode cX12_sum 48 = .ok (.iload_n 1, 1) := by decide +kernel
theorem dX12_sum_49 : decode cX12_sum 49 = .ok (.bipush 43, 2) := by decide +kernel
theorem dX12_sum_51 : decode cX12_sum 51 = .ok (.if_icmp .ne 7, 3) := by decide +kernel
theorem dX12_sum_54 : decode cX12_sum 54 = .ok (.iconst 2, 1) := by decide +kernel
theorem dX12_sum_55 : decode cX12_sum 55 = .ok (.goto 4, 3) := by decide +kernel
theorem dX12_sum_58 : decode cX12_sum 58 = .ok (.iconst 3, 1) := by decide +kernel
theorem dX12_sum_59 : decode cX12_sum 59 = .ok (.iconst 0, 1) := by decide +kernel
theorem dX12_sum_60 : decode cX12_sum 60 = .ok (.invokevirtual 156, 3) := by decide +kernel
theorem dX12_sum_63 : decode cX12_sum 63 = .ok (.aload_n 0, 1) := by decide +kernel
theorem dX12_sum_64 : decode cX12_sum 64 = .ok (.getfield 134, 3) := by decide +kernel
theorem dX12_sum_67 : decode cX12_sum 67 = .ok (.iconst (-1), 1) := by decide +kernel
theorem dX12_sum_68 : decode cX12_sum 68 = .ok (.if_icmp .ne 10, 3) := by decide +kernel
theorem dX12_sum_71 : decode cX12_sum 71 = .ok (.aload_n 0, 1) := by decide +kernel
theorem dX12_sum_72 : decode cX12_sum 72 = .ok (.invokevirtual 146, 3) := by decide +kernel
theorem dX12_sum_75 : decode cX12_sum 75 = .ok (.goto 4, 3) := by decide +kernel
theorem dX12_sum_78 : decode cX12_sum 78 = .ok (.iconst (-1), 1) := by decide +kernel
theorem dX12_sum_79 : decode cX12_sum 79 = .ok (.istore_n 1, 1) := by decide +kernel
theorem dX12_sum_80 : decode cX12_sum 80 = .ok (.goto (-59), 3) := by decide +kernel
theorem dX12_sum_83 : decode cX12_sum 83 = .ok (.return_, 1) := by decide +kernel
theorem dX12_term_0 : decode cX12_term 0 = .ok (.aload_n 0, 1) := by decide +kernel
theorem dX12_term_1 : decode cX12_term 1 = .ok (.invokevirtual 174, 3) := by decide +kernel
theorem dX12_term_4 : decode cX12_term 4 = .ok (.aload_n 0, 1) := by decide +kernel
theorem dX12_term_5 : decode cX12_term 5 = .ok (.getfield 134, 3) := by decide +kernel
theorem dX12_term_8 : decode cX12_term 8 = .ok (.iconst (-1), 1) := by decide +kernel
theorem dX12_term_9 : decode cX12_term 9 = .ok (.if_icmp .ne 10, 3) := by decide +kernel
theorem dX12_term_12 : decode cX12_term 12 = .ok (.aload_n 0, 1) := by decide +kernel
theorem dX12_term_13 : decode cX12_term 13 = .ok (.invokevirtual 146, 3) := by decide +kernel
theorem dX12_term_16 : decode cX12_term 16 = .ok (.goto 4, 3) := by decide +kernel
theorem dX12_term_19 : decode cX12_term 19 = .ok (.iconst (-1), 1) := by decide +kernel
theorem dX12_term_20 : decode cX12_term 20 = .ok (.istore_n 1, 1) := by decide +kernel
theorem dX12_term_21 : decode cX12_term 21 = .ok (.iload_n 1, 1) := by decide +kernel
theorem dX12_term_22 : decode cX12_term 22 = .ok (.bipush 42, 2) := by decide +kernel
theorem dX12_term_24 : decode cX12_term 24 = .ok (.if_icmp .eq 9, 3) := by decide +kernel
theorem dX12_term_27 : decode cX12_term 27 = .ok (.iload_n 1, 1) := by decide +kernel
theorem dX12_term_28 : decode cX12_term 28 = .ok (.bipush 47, 2) := by decide +kernel
theorem dX12_term_30 : decode cX12_term 30 = .ok (.if_icmp .ne 53, 3) := by decide +kernel
theorem dX12_term_33 : decode cX12_term 33 = .ok (.aload_n 0, 1) := by decide +kernel
theorem dX12_term_34 : decode cX12_term 34 = .ok (.dup, 1) := by decide +kernel
theorem dX12_term_35 : decode cX12_term 35 = .ok (.getfield 127, 3) := by decide +kernel
theorem dX12_term_38 : decode cX12_term 38 = .ok (.iconst 1, 1) := by decide +kernel
theorem dX12_term_39 : decode cX12_term 39 = .ok (.iadd, 1) := by decide +kernel
theorem dX12_term_40 : decode cX12_term 40 = .ok (.putfield 127, 3) := by decide +kernel
theorem dX12_term_43 : decode cX12_term 43 = .ok (.aload_n 0, 1) := by decide +kernel
theorem dX12_term_44 : decode cX12_term 44 = .ok (.invokevirtual 174, 3) := by decide +kernel
theorem dX12_term_47 : decode cX12_term 47 = .ok (.aload_n 0, 1) := by decide +kernel
theorem dX12_term_48 : decode cX12_term 48 = .ok (.iload_n 1, 1) := by decide +kernel
theorem dX12_term_49 : decode cX12_term 49 = .ok (.bipush 42, 2) := by decide +kernel
theorem dX12_term_51 : decode cX12_term 51 = .ok (.if_icmp .ne 7, 3) := by decide +kernel
theorem dX12_term_54 : decode cX12_term 54 = .ok (.iconst 4, 1) := by decide +kernel
theorem dX12_term_55 : decode cX12_term 55 = .ok (.goto 4, 3) := by decide +kernel
theorem dX12_term_58 : decode cX12_term 58 = .ok (.iconst 5, 1) := by decide +kernel
theorem dX12_term_59 : decode cX12_term 59 = .ok (.iconst 0, 1) := by decide +kernel
theorem dX12_term_60 : decode cX12_term 60 = .ok (.invokevirtual 156, 3) := by decide +kernel
theorem dX12_term_63 : decode cX12_term 63 = .ok (.aload_n 0, 1) := by decide +kernel
theorem dX12_term_64 : decode cX12_term 64 = .ok (.getfield 134, 3) := by decide +kernel
theorem dX12_term_67 : decode cX12_term 67 = .ok (.iconst (-1), 1) := by decide +kernel
theorem dX12_term_68 : decode cX12_term 68 = .ok (.if_icmp .ne 10, 3) := by decide +kernel
theorem dX12_term_71 : decode cX12_term 71 = .ok (.aload_n 0, 1) := by decide +kernel
theorem dX12_term_72 : decode cX12_term 72 = .ok (.invokevirtual 146, 3) := by decide +kernel
theorem dX12_term_75 : decode cX12_term 75 = .ok (.goto 4, 3) := by decide +kernel
theorem dX12_term_78 : decode cX12_term 78 = .ok (.iconst (-1), 1) := by decide +kernel
theorem dX12_term_79 : decode cX12_term 79 = .ok (.istore_n 1, 1) := by decide +kernel
theorem dX12_term_80 : decode cX12_term 80 = .ok (.goto (-59), 3) := by decide +kernel
theorem dX12_term_83 : decode cX12_term 83 = .ok (.return_, 1) := by decide +kernel
theorem dX12_unit_0 : decode cX12_unit 0 = .ok (.aload_n 0, 1) := by decide +kernel
theorem dX12_unit_1 : decode cX12_unit 1 = .ok (.invokevirtual 146, 3) := by decide +kernel
theorem dX12_unit_4 : decode cX12_unit 4 = .ok (.istore_n 1, 1) := by decide +kernel
theorem dX12_unit_5 : decode cX12_unit 5 = .ok (.iload_n 1, 1) := by decide +kernel
theorem dX12_unit_6 : decode cX12_unit 6 = .ok (.bipush 33, 2) := by decide +kernel
theorem dX12_unit_8 : decode cX12_unit 8 = .ok (.if_icmp .ne 39, 3) := by decide +kernel
theorem dX12_unit_11 : decode cX12_unit 11 = .ok (.aload_n 0, 1) := by decide +kernel
theorem dX12_unit_12 : decode cX12_unit 12 = .ok (.invokevirtual 164, 3) := by decide +kernel
theorem dX12_unit_15 : decode cX12_unit 15 = .ok (.aload_n 0, 1) := by decide +kernel
theorem dX12_unit_16 : decode cX12_unit 16 = .ok (.getfield 134, 3) := by decide +kernel
theorem dX12_unit_19 : decode cX12_unit 19 = .ok (.iconst (-1), 1) := by decide +kernel
theorem dX12_unit_20 : decode cX12_unit 20 = .ok (.if_icmp .ne 74, 3) := by decide +kernel
theorem dX12_unit_23 : decode cX12_unit 23 = .ok (.aload_n 0, 1) := by decide +kernel
theorem dX12_unit_24 : decode cX12_unit 24 = .ok (.invokevirtual 183, 3) := by decide +kernel
theorem dX12_unit_27 : decode cX12_unit 27 = .ok (.aload_n 0, 1) := by decide +kernel
theorem dX12_unit_28 : decode cX12_unit 28 = .ok (.bipush 9, 2) := by decide +kernel
theorem dX12_unit_30 : decode cX12_unit 30 = .ok (.iconst 0, 1) := by decide +kernel
theorem dX12_unit_31 : decode cX12_unit 31 = .ok (.invokevirtual 156, 3) := by decide +kernel
theorem dX12_unit_34 : decode cX12_unit 34 = .ok (.aload_n 0, 1) := by decide +kernel
theorem dX12_unit_35 : decode cX12_unit 35 = .ok (.dup, 1) := by decide +kernel
theorem dX12_unit_36 : decode cX12_unit 36 = .ok (.getfield 140, 3) := by decide +kernel
theorem dX12_unit_39 : decode cX12_unit 39 = .ok (.iconst 1, 1) := by decide +kernel
theorem dX12_unit_40 : decode cX12_unit 40 = .ok (.isub, 1) := by decide +kernel
theorem dX12_unit_41 : decode cX12_unit 41 = .ok (.putfield 140, 3) := by decide +kernel
theorem dX12_unit_44 : decode cX12_unit 44 = .ok (.goto 50, 3) := by decide +kernel
theorem dX12_unit_47 : decode cX12_unit 47 = .ok (.iload_n 1, 1) := by decide +kernel
theorem dX12_unit_48 : decode cX12_unit 48 = .ok (.bipush 40, 2) := by decide +kernel
theorem dX12_unit_50 : decode cX12_unit 50 = .ok (.if_icmp .ne 28, 3) := by decide +kernel
theorem dX12_unit_53 : decode cX12_unit 53 = .ok (.aload_n 0, 1) := by decide +kernel
theorem dX12_unit_54 : decode cX12_unit 54 = .ok (.invokevirtual 164, 3) := by decide +kernel
theorem dX12_unit_57 : decode cX12_unit 57 = .ok (.aload_n 0, 1) := by decide +kernel
theorem dX12_unit_58 : decode cX12_unit 58 = .ok (.getfield 134, 3) := by decide +kernel
theorem dX12_unit_61 : decode cX12_unit 61 = .ok (.iconst (-1), 1) := by decide +kernel
theorem dX12_unit_62 : decode cX12_unit 62 = .ok (.if_icmp .ne 32, 3) := by decide +kernel
theorem dX12_unit_65 : decode cX12_unit 65 = .ok (.aload_n 0, 1) := by decide +kernel
theorem dX12_unit_66 : decode cX12_unit 66 = .ok (.invokevirtual 186, 3) := by decide +kernel
theorem dX12_unit_69 : decode cX12_unit 69 = .ok (.aload_n 0, 1) := by decide +kernel
theorem dX12_unit_70 : decode cX12_unit 70 = .ok (.bipush 41, 2) := by decide +kernel
theorem dX12_unit_72 : decode cX12_unit 72 = .ok (.invokevirtual 170, 3) := by decide +kernel
theorem dX12_unit_75 : decode cX12_unit 75 = .ok (.goto 19, 3) := by decide +kernel
theorem dX12_unit_78 : decode cX12_unit 78 = .ok (.aload_n 0, 1) := by decide +kernel
theorem dX12_unit_79 : decode cX12_unit 79 = .ok (.invokevirtual 167, 3) := by decide +kernel
theorem dX12_unit_82 : decode cX12_unit 82 = .ok (.aload_n 0, 1) := by decide +kernel
theorem dX12_unit_83 : decode cX12_unit 83 = .ok (.getfield 134, 3) := by decide +kernel
theorem dX12_unit_86 : decode cX12_unit 86 = .ok (.iconst (-1), 1) := by decide +kernel
theorem dX12_unit_87 : decode cX12_unit 87 = .ok (.if_icmp .ne 7, 3) := by decide +kernel
theorem dX12_unit_90 : decode cX12_unit 90 = .ok (.aload_n 0, 1) := by decide +kernel
theorem dX12_unit_91 : decode cX12_unit 91 = .ok (.invokevirtual 189, 3) := by decide +kernel
theorem dX12_unit_94 : decode cX12_unit 94 = .ok (.return_, 1) := by decide +kernel
def w_LQ0 : List Cond := [Cond.code yX12_atom cX12_atom 2 none, Cond.code yX12_term cX12_term 2 none, Cond.code yX12_sum cX12_sum 2 none, Cond.code yX12_compare cX12_compare 2 none, Cond.code yX12_unit cX12_unit 2 none, Cond.code yX12_goOnAnd cX12_goOnAnd 1 none, Cond.code yX12_goOnOr cX12_goOnOr 1 none, Cond.code yX12_condition cX12_condition 1 none, Cond.methodLink RX12 146 yX12_look, Cond.instanceMethod yX12_look, Cond.selects RX12 yX12_look yX12_look, Cond.initialized RX12, Cond.methodLink RX12 149 yX12_isDigit, Cond.static yX12_isDigit, Cond.methodLink RX12 160 yX12_letterOf, Cond.static yX12_letterOf, Cond.methodLink RX12 143 yX12_bad, Cond.instanceMethod yX12_bad, Cond.selects RX12 yX12_bad yX12_bad, Cond.methodLink RX12 164 yX12_opens, Cond.instanceMethod yX12_opens, Cond.selects RX12 yX12_opens yX12_opens, Cond.fieldLink RX12 134 "HeadYearModel" "wrong" "I", Cond.methodLink RX12 167 yX12_sum, Cond.instanceMethod yX12_sum, Cond.selects RX12 yX12_sum yX12_sum, Cond.methodLink RX12 170 yX12_closes, Cond.instanceMethod yX12_closes, Cond.selects RX12 yX12_closes yX12_closes, Cond.fieldLink RX12 127 "HeadYearModel" "at" "I", Cond.methodLink RX12 156 yX12_put, Cond.instanceMethod yX12_put, Cond.selects RX12 yX12_put yX12_put, Cond.methodLink RX12 153 yX12_plainNumber, Cond.instanceMethod yX12_plainNumber, Cond.selects RX12 yX12_plainNumber yX12_plainNumber, Cond.methodLink RX12 174 yX12_atom, Cond.instanceMethod yX12_atom, Cond.selects RX12 yX12_atom yX12_atom, Cond.methodLink RX12 177 yX12_term, Cond.instanceMethod yX12_term, Cond.selects RX12 yX12_term yX12_term, Cond.methodLink RX12 180 yX12_isSign, Cond.static yX12_isSign, Cond.methodLink RX12 189 yX12_compare, Cond.instanceMethod yX12_compare, Cond.selects RX12 yX12_compare yX12_compare, Cond.methodLink RX12 186 yX12_condition, Cond.instanceMethod yX12_condition, Cond.selects RX12 yX12_condition yX12_condition, Cond.methodLink RX12 183 yX12_unit, Cond.instanceMethod yX12_unit, Cond.selects RX12 yX12_unit yX12_unit, Cond.fieldLink RX12 140 "HeadYearModel" "deep" "I", Cond.methodLink RX12 192 yX12_goOnAnd, Cond.instanceMethod yX12_goOnAnd, Cond.selects RX12 yX12_goOnAnd yX12_goOnAnd, Cond.methodLink RX12 195 yX12_goOnOr, Cond.instanceMethod yX12_goOnOr, Cond.selects RX12 yX12_goOnOr yX12_goOnOr]
def w_LQ : List Cond := w_LQ0 ++ (u_ws RX12 TX12 54 ++ (w_X12_look ++ (w_X12_isDigit ++ (w_X12_letterOf ++ (w_X12_bad ++ (w_X12_opens ++ (w_X12_closes ++ (w_X12_put ++ (w_X12_plainNumber ++ (w_X12_isSign ++ ([])))))))))))
def w_X12_atom : List Cond := Cond.code yX12_atom cX12_atom 2 none :: w_LQ
def w_X12_term : List Cond := Cond.code yX12_term cX12_term 2 none :: w_LQ
def w_X12_sum : List Cond := Cond.code yX12_sum cX12_sum 2 none :: w_LQ
def w_X12_compare : List Cond := Cond.code yX12_compare cX12_compare 2 none :: w_LQ
def w_X12_unit : List Cond := Cond.code yX12_unit cX12_unit 2 none :: w_LQ
def w_X12_goOnAnd : List Cond := Cond.code yX12_goOnAnd cX12_goOnAnd 1 none :: w_LQ
def w_X12_goOnOr : List Cond := Cond.code yX12_goOnOr cX12_goOnOr 1 none :: w_LQ
def w_X12_condition : List Cond := Cond.code yX12_condition cX12_condition 1 none :: w_LQ
theorem in_X12_atom_X12 : ∀ w ∈ u_ws RX12 TX12 54, w ∈ w_X12_atom := fun _ h => List.mem_cons_of_mem _ (List.mem_append_right _ (List.mem_append_left _ h))
theorem gg_X12_atom_X12_look : GoodIn w_X12_atom w_X12_look := goodIn_sub (fun _ h => List.mem_cons_of_mem _ (List.mem_append_right _ (List.mem_append_right _ (List.mem_append_left _ h)))) (by decide +kernel)
theorem gg_X12_atom_X12_isDigit : GoodIn w_X12_atom w_X12_isDigit := goodIn_sub (fun _ h => List.mem_cons_of_mem _ (List.mem_append_right _ (List.mem_append_right _ (List.mem_append_right _ (List.mem_append_left _ h))))) (by decide +kernel)
theorem gg_X12_atom_X12_letterOf : GoodIn w_X12_atom w_X12_letterOf := goodIn_sub (fun _ h => List.mem_cons_of_mem _ (List.mem_append_right _ (List.mem_append_right _ (List.mem_append_right _ (List.mem_append_right _ (List.mem_append_left _ h)))))) (by decide +kernel)
theorem gg_X12_atom_X12_bad : GoodIn w_X12_atom w_X12_bad := goodIn_sub (fun _ h => List.mem_cons_of_mem _ (List.mem_append_right _ (List.mem_append_right _ (List.mem_append_right _ (List.mem_append_right _ (List.mem_append_right _ (List.mem_append_left _ h))))))) (by decide +kernel)
theorem gg_X12_atom_X12_opens : GoodIn w_X12_atom w_X12_opens := goodIn_sub (fun _ h => List.mem_cons_of_mem _ (List.mem_append_right _ (List.mem_append_right _ (List.mem_append_right _ (List.mem_append_right _ (List.mem_append_right _ (List.mem_append_right _ (List.mem_append_left _ h)))))))) (by decide +kernel)
theorem gg_X12_atom_X12_closes : GoodIn w_X12_atom w_X12_closes := goodIn_sub (fun _ h => List.mem_cons_of_mem _ (List.mem_append_right _ (List.mem_append_right _ (List.mem_append_right _ (List.mem_append_right _ (List.mem_append_right _ (List.mem_append_right _ (List.mem_append_right _ (List.mem_append_left _ h))))))))) (by decide +kernel)
theorem gg_X12_atom_X12_put : GoodIn w_X12_atom w_X12_put := goodIn_sub (fun _ h => List.mem_cons_of_mem _ (List.mem_append_right _ (List.mem_append_right _ (List.mem_append_right _ (List.mem_append_right _ (List.mem_append_right _ (List.mem_append_right _ (List.mem_append_right _ (List.mem_append_right _ (List.mem_append_left _ h)))))))))) (by decide +kernel)
theorem gg_X12_atom_X12_plainNumber : GoodIn w_X12_atom w_X12_plainNumber := goodIn_sub (fun _ h => List.mem_cons_of_mem _ (List.mem_append_right _ (List.mem_append_right _ (List.mem_append_right _ (List.mem_append_right _ (List.mem_append_right _ (List.mem_append_right _ (List.mem_append_right _ (List.mem_append_right _ (List.mem_append_right _ (List.mem_append_left _ h))))))))))) (by decide +kernel)
theorem gg_X12_atom_X12_isSign : GoodIn w_X12_atom w_X12_isSign := goodIn_sub (fun _ h => List.mem_cons_of_mem _ (List.mem_append_right _ (List.mem_append_right _ (List.mem_append_right _ (List.mem_append_right _ (List.mem_append_right _ (List.mem_append_right _ (List.mem_append_right _ (List.mem_append_right _ (List.mem_append_right _ (List.mem_append_right _ (List.mem_append_left _ h)))))))))))) (by decide +kernel)
theorem gg_X12_atom_X12_atom : GoodIn w_X12_atom w_X12_atom := goodIn_sub (fun _ h => (List.mem_cons.mp h).elim (fun e => e ▸ List.mem_cons_of_mem _ (List.mem_append_left _ (List.mem_of_getElem? (i := 0) rfl))) (fun h => List.mem_cons_of_mem _ h)) (by decide +kernel)
theorem gg_X12_atom_X12_term : GoodIn w_X12_atom w_X12_term := goodIn_sub (fun _ h => (List.mem_cons.mp h).elim (fun e => e ▸ List.mem_cons_of_mem _ (List.mem_append_left _ (List.mem_of_getElem? (i := 1) rfl))) (fun h => List.mem_cons_of_mem _ h)) (by decide +kernel)
theorem gg_X12_atom_X12_sum : GoodIn w_X12_atom w_X12_sum := goodIn_sub (fun _ h => (List.mem_cons.mp h).elim (fun e => e ▸ List.mem_cons_of_mem _ (List.mem_append_left _ (List.mem_of_getElem? (i := 2) rfl))) (fun h => List.mem_cons_of_mem _ h)) (by decide +kernel)
theorem gg_X12_atom_X12_compare : GoodIn w_X12_atom w_X12_compare := goodIn_sub (fun _ h => (List.mem_cons.mp h).elim (fun e => e ▸ List.mem_cons_of_mem _ (List.mem_append_left _ (List.mem_of_getElem? (i := 3) rfl))) (fun h => List.mem_cons_of_mem _ h)) (by decide +kernel)
theorem gg_X12_atom_X12_unit : GoodIn w_X12_atom w_X12_unit := goodIn_sub (fun _ h => (List.mem_cons.mp h).elim (fun e => e ▸ List.mem_cons_of_mem _ (List.mem_append_left _ (List.mem_of_getElem? (i := 4) rfl))) (fun h => List.mem_cons_of_mem _ h)) (by decide +kernel)
theorem gg_X12_atom_X12_goOnAnd : GoodIn w_X12_atom w_X12_goOnAnd := goodIn_sub (fun _ h => (List.mem_cons.mp h).elim (fun e => e ▸ List.mem_cons_of_mem _ (List.mem_append_left _ (List.mem_of_getElem? (i := 5) rfl))) (fun h => List.mem_cons_of_mem _ h)) (by decide +kernel)
theorem gg_X12_atom_X12_goOnOr : GoodIn w_X12_atom w_X12_goOnOr := goodIn_sub (fun _ h => (List.mem_cons.mp h).elim (fun e => e ▸ List.mem_cons_of_mem _ (List.mem_append_left _ (List.mem_of_getElem? (i := 6) rfl))) (fun h => List.mem_cons_of_mem _ h)) (by decide +kernel)
theorem gg_X12_atom_X12_condition : GoodIn w_X12_atom w_X12_condition := goodIn_sub (fun _ h => (List.mem_cons.mp h).elim (fun e => e ▸ List.mem_cons_of_mem _ (List.mem_append_left _ (List.mem_of_getElem? (i := 7) rfl))) (fun h => List.mem_cons_of_mem _ h)) (by decide +kernel)
theorem in_X12_term_X12 : ∀ w ∈ u_ws RX12 TX12 54, w ∈ w_X12_term := fun _ h => List.mem_cons_of_mem _ (List.mem_append_right _ (List.mem_append_left _ h))
theorem gg_X12_term_X12_look : GoodIn w_X12_term w_X12_look := goodIn_sub (fun _ h => List.mem_cons_of_mem _ (List.mem_append_right _ (List.mem_append_right _ (List.mem_append_left _ h)))) (by decide +kernel)
theorem gg_X12_term_X12_isDigit : GoodIn w_X12_term w_X12_isDigit := goodIn_sub (fun _ h => List.mem_cons_of_mem _ (List.mem_append_right _ (List.mem_append_right _ (List.mem_append_right _ (List.mem_append_left _ h))))) (by decide +kernel)
theorem gg_X12_term_X12_letterOf : GoodIn w_X12_term w_X12_letterOf := goodIn_sub (fun _ h => List.mem_cons_of_mem _ (List.mem_append_right _ (List.mem_append_right _ (List.mem_append_right _ (List.mem_append_right _ (List.mem_append_left _ h)))))) (by decide +kernel)
theorem gg_X12_term_X12_bad : GoodIn w_X12_term w_X12_bad := goodIn_sub (fun _ h => List.mem_cons_of_mem _ (List.mem_append_right _ (List.mem_append_right _ (List.mem_append_right _ (List.mem_append_right _ (List.mem_append_right _ (List.mem_append_left _ h))))))) (by decide +kernel)
theorem gg_X12_term_X12_opens : GoodIn w_X12_term w_X12_opens := goodIn_sub (fun _ h => List.mem_cons_of_mem _ (List.mem_append_right _ (List.mem_append_right _ (List.mem_append_right _ (List.mem_append_right _ (List.mem_append_right _ (List.mem_append_right _ (List.mem_append_left _ h)))))))) (by decide +kernel)
theorem gg_X12_term_X12_closes : GoodIn w_X12_term w_X12_closes := goodIn_sub (fun _ h => List.mem_cons_of_mem _ (List.mem_append_right _ (List.mem_append_right _ (List.mem_append_right _ (List.mem_append_right _ (List.mem_append_right _ (List.mem_append_right _ (List.mem_append_right _ (List.mem_append_left _ h))))))))) (by decide +kernel)
theorem gg_X12_term_X12_put : GoodIn w_X12_term w_X12_put := goodIn_sub (fun _ h => List.mem_cons_of_mem _ (List.mem_append_right _ (List.mem_append_right _ (List.mem_append_right _ (List.mem_append_right _ (List.mem_append_right _ (List.mem_append_right _ (List.mem_append_right _ (List.mem_append_right _ (List.mem_append_left _ h)))))))))) (by decide +kernel)
theorem gg_X12_term_X12_plainNumber : GoodIn w_X12_term w_X12_plainNumber := goodIn_sub (fun _ h => List.mem_cons_of_mem _ (List.mem_append_right _ (List.mem_append_right _ (List.mem_append_right _ (List.mem_append_right _ (List.mem_append_right _ (List.mem_append_right _ (List.mem_append_right _ (List.mem_append_right _ (List.mem_append_right _ (List.mem_append_left _ h))))))))))) (by decide +kernel)
theorem gg_X12_term_X12_isSign : GoodIn w_X12_term w_X12_isSign := goodIn_sub (fun _ h => List.mem_cons_of_mem _ (List.mem_append_right _ (List.mem_append_right _ (List.mem_append_right _ (List.mem_append_right _ (List.mem_append_right _ (List.mem_append_right _ (List.mem_append_right _ (List.mem_append_right _ (List.mem_append_right _ (List.mem_append_right _ (List.mem_append_left _ h)))))))))))) (by decide +kernel)
theorem gg_X12_term_X12_atom : GoodIn w_X12_term w_X12_atom := goodIn_sub (fun _ h => (List.mem_cons.mp h).elim (fun e => e ▸ List.mem_cons_of_mem _ (List.mem_append_left _ (List.mem_of_getElem? (i := 0) rfl))) (fun h => List.mem_cons_of_mem _ h)) (by decide +kernel)
theorem gg_X12_term_X12_term : GoodIn w_X12_term w_X12_term := goodIn_sub (fun _ h => (List.mem_cons.mp h).elim (fun e => e ▸ List.mem_cons_of_mem _ (List.mem_append_left _ (List.mem_of_getElem? (i := 1) rfl))) (fun h => List.mem_cons_of_mem _ h)) (by decide +kernel)
theorem gg_X12_term_X12_sum : GoodIn w_X12_term w_X12_sum := goodIn_sub (fun _ h => (List.mem_cons.mp h).elim (fun e => e ▸ List.mem_cons_of_mem _ (List.mem_append_left _ (List.mem_of_getElem? (i := 2) rfl))) (fun h => List.mem_cons_of_mem _ h)) (by decide +kernel)
theorem gg_X12_term_X12_compare : GoodIn w_X12_term w_X12_compare := goodIn_sub (fun _ h => (List.mem_cons.mp h).elim (fun e => e ▸ List.mem_cons_of_mem _ (List.mem_append_left _ (List.mem_of_getElem? (i := 3) rfl))) (fun h => List.mem_cons_of_mem _ h)) (by decide +kernel)
theorem gg_X12_term_X12_unit : GoodIn w_X12_term w_X12_unit := goodIn_sub (fun _ h => (List.mem_cons.mp h).elim (fun e => e ▸ List.mem_cons_of_mem _ (List.mem_append_left _ (List.mem_of_getElem? (i := 4) rfl))) (fun h => List.mem_cons_of_mem _ h)) (by decide +kernel)
theorem gg_X12_term_X12_goOnAnd : GoodIn w_X12_term w_X12_goOnAnd := goodIn_sub (fun _ h => (List.mem_cons.mp h).elim (fun e => e ▸ List.mem_cons_of_mem _ (List.mem_append_left _ (List.mem_of_getElem? (i := 5) rfl))) (fun h => List.mem_cons_of_mem _ h)) (by decide +kernel)
theorem gg_X12_term_X12_goOnOr : GoodIn w_X12_term w_X12_goOnOr := goodIn_sub (fun _ h => (List.mem_cons.mp h).elim (fun e => e ▸ List.mem_cons_of_mem _ (List.mem_append_left _ (List.mem_of_getElem? (i := 6) rfl))) (fun h => List.mem_cons_of_mem _ h)) (by decide +kernel)
theorem gg_X12_term_X12_condition : GoodIn w_X12_term w_X12_condition := goodIn_sub (fun _ h => (List.mem_cons.mp h).elim (fun e => e ▸ List.mem_cons_of_mem _ (List.mem_append_left _ (List.mem_of_getElem? (i := 7) rfl))) (fun h => List.mem_cons_of_mem _ h)) (by decide +kernel)
theorem in_X12_sum_X12 : ∀ w ∈ u_ws RX12 TX12 54, w ∈ w_X12_sum := fun _ h => List.mem_cons_of_mem _ (List.mem_append_right _ (List.mem_append_left _ h))
theorem gg_X12_sum_X12_look : GoodIn w_X12_sum w_X12_look := goodIn_sub (fun _ h => List.mem_cons_of_mem _ (List.mem_append_right _ (List.mem_append_right _ (List.mem_append_left _ h)))) (by decide +kernel)
theorem gg_X12_sum_X12_isDigit : GoodIn w_X12_sum w_X12_isDigit := goodIn_sub (fun _ h => List.mem_cons_of_mem _ (List.mem_append_right _ (List.mem_append_right _ (List.mem_append_right _ (List.mem_append_left _ h))))) (by decide +kernel)
theorem gg_X12_sum_X12_letterOf : GoodIn w_X12_sum w_X12_letterOf := goodIn_sub (fun _ h => List.mem_cons_of_mem _ (List.mem_append_right _ (List.mem_append_right _ (List.mem_append_right _ (List.mem_append_right _ (List.mem_append_left _ h)))))) (by decide +kernel)
theorem gg_X12_sum_X12_bad : GoodIn w_X12_sum w_X12_bad := goodIn_sub (fun _ h => List.mem_cons_of_mem _ (List.mem_append_right _ (List.mem_append_right _ (List.mem_append_right _ (List.mem_append_right _ (List.mem_append_right _ (List.mem_append_left _ h))))))) (by decide +kernel)
theorem gg_X12_sum_X12_opens : GoodIn w_X12_sum w_X12_opens := goodIn_sub (fun _ h => List.mem_cons_of_mem _ (List.mem_append_right _ (List.mem_append_right _ (List.mem_append_right _ (List.mem_append_right _ (List.mem_append_right _ (List.mem_append_right _ (List.mem_append_left _ h)))))))) (by decide +kernel)
theorem gg_X12_sum_X12_closes : GoodIn w_X12_sum w_X12_closes := goodIn_sub (fun _ h => List.mem_cons_of_mem _ (List.mem_append_right _ (List.mem_append_right _ (List.mem_append_right _ (List.mem_append_right _ (List.mem_append_right _ (List.mem_append_right _ (List.mem_append_right _ (List.mem_append_left _ h))))))))) (by decide +kernel)
theorem gg_X12_sum_X12_put : GoodIn w_X12_sum w_X12_put := goodIn_sub (fun _ h => List.mem_cons_of_mem _ (List.mem_append_right _ (List.mem_append_right _ (List.mem_append_right _ (List.mem_append_right _ (List.mem_append_right _ (List.mem_append_right _ (List.mem_append_right _ (List.mem_append_right _ (List.mem_append_left _ h)))))))))) (by decide +kernel)
theorem gg_X12_sum_X12_plainNumber : GoodIn w_X12_sum w_X12_plainNumber := goodIn_sub (fun _ h => List.mem_cons_of_mem _ (List.mem_append_right _ (List.mem_append_right _ (List.mem_append_right _ (List.mem_append_right _ (List.mem_append_right _ (List.mem_append_right _ (List.mem_append_right _ (List.mem_append_right _ (List.mem_append_right _ (List.mem_append_left _ h))))))))))) (by decide +kernel)
theorem gg_X12_sum_X12_isSign : GoodIn w_X12_sum w_X12_isSign := goodIn_sub (fun _ h => List.mem_cons_of_mem _ (List.mem_append_right _ (List.mem_append_right _ (List.mem_append_right _ (List.mem_append_right _ (List.mem_append_right _ (List.mem_append_right _ (List.mem_append_right _ (List.mem_append_right _ (List.mem_append_right _ (List.mem_append_right _ (List.mem_append_left _ h)))))))))))) (by decide +kernel)
theorem gg_X12_sum_X12_atom : GoodIn w_X12_sum w_X12_atom := goodIn_sub (fun _ h => (List.mem_cons.mp h).elim (fun e => e ▸ List.mem_cons_of_mem _ (List.mem_append_left _ (List.mem_of_getElem? (i := 0) rfl))) (fun h => List.mem_cons_of_mem _ h)) (by decide +kernel)
theorem gg_X12_sum_X12_term : GoodIn w_X12_sum w_X12_term := goodIn_sub (fun _ h => (List.mem_cons.mp h).elim (fun e => e ▸ List.mem_cons_of_mem _ (List.mem_append_left _ (List.mem_of_getElem? (i := 1) rfl))) (fun h => List.mem_cons_of_mem _ h)) (by decide +kernel)
theorem gg_X12_sum_X12_sum : GoodIn w_X12_sum w_X12_sum := goodIn_sub (fun _ h => (List.mem_cons.mp h).elim (fun e => e ▸ List.mem_cons_of_mem _ (List.mem_append_left _ (List.mem_of_getElem? (i := 2) rfl))) (fun h => List.mem_cons_of_mem _ h)) (by decide +kernel)
theorem gg_X12_sum_X12_compare : GoodIn w_X12_sum w_X12_compare := goodIn_sub (fun _ h => (List.mem_cons.mp h).elim (fun e => e ▸ List.mem_cons_of_mem _ (List.mem_append_left _ (List.mem_of_getElem? (i := 3) rfl))) (fun h => List.mem_cons_of_mem _ h)) (by decide +kernel)
theorem gg_X12_sum_X12_unit : GoodIn w_X12_sum w_X12_unit := goodIn_sub (fun _ h => (List.mem_cons.mp h).elim (fun e => e ▸ List.mem_cons_of_mem _ (List.mem_append_left _ (List.mem_of_getElem? (i := 4) rfl))) (fun h => List.mem_cons_of_mem _ h)) (by decide +kernel)
theorem gg_X12_sum_X12_goOnAnd : GoodIn w_X12_sum w_X12_goOnAnd := goodIn_sub (fun _ h => (List.mem_cons.mp h).elim (fun e => e ▸ List.mem_cons_of_mem _ (List.mem_append_left _ (List.mem_of_getElem? (i := 5) rfl))) (fun h => List.mem_cons_of_mem _ h)) (by decide +kernel)
theorem gg_X12_sum_X12_goOnOr : GoodIn w_X12_sum w_X12_goOnOr := goodIn_sub (fun _ h => (List.mem_cons.mp h).elim (fun e => e ▸ List.mem_cons_of_mem _ (List.mem_append_left _ (List.mem_of_getElem? (i := 6) rfl))) (fun h => List.mem_cons_of_mem _ h)) (by decide +kernel)
theorem gg_X12_sum_X12_condition : GoodIn w_X12_sum w_X12_condition := goodIn_sub (fun _ h => (List.mem_cons.mp h).elim (fun e => e ▸ List.mem_cons_of_mem _ (List.mem_append_left _ (List.mem_of_getElem? (i := 7) rfl))) (fun h => List.mem_cons_of_mem _ h)) (by decide +kernel)
theorem in_X12_compare_X12 : ∀ w ∈ u_ws RX12 TX12 54, w ∈ w_X12_compare := fun _ h => List.mem_cons_of_mem _ (List.mem_append_right _ (List.mem_append_left _ h))
theorem gg_X12_compare_X12_look : GoodIn w_X12_compare w_X12_look := goodIn_sub (fun _ h => List.mem_cons_of_mem _ (List.mem_append_right _ (List.mem_append_right _ (List.mem_append_left _ h)))) (by decide +kernel)
theorem gg_X12_compare_X12_isDigit : GoodIn w_X12_compare w_X12_isDigit := goodIn_sub (fun _ h => List.mem_cons_of_mem _ (List.mem_append_right _ (List.mem_append_right _ (List.mem_append_right _ (List.mem_append_left _ h))))) (by decide +kernel)
theorem gg_X12_compare_X12_letterOf : GoodIn w_X12_compare w_X12_letterOf := goodIn_sub (fun _ h => List.mem_cons_of_mem _ (List.mem_append_right _ (List.mem_append_right _ (List.mem_append_right _ (List.mem_append_right _ (List.mem_append_left _ h)))))) (by decide +kernel)
theorem gg_X12_compare_X12_bad : GoodIn w_X12_compare w_X12_bad := goodIn_sub (fun _ h => List.mem_cons_of_mem _ (List.mem_append_right _ (List.mem_append_right _ (List.mem_append_right _ (List.mem_append_right _ (List.mem_append_right _ (List.mem_append_left _ h))))))) (by decide +kernel)
theorem gg_X12_compare_X12_opens : GoodIn w_X12_compare w_X12_opens := goodIn_sub (fun _ h => List.mem_cons_of_mem _ (List.mem_append_right _ (List.mem_append_right _ (List.mem_append_right _ (List.mem_append_right _ (List.mem_append_right _ (List.mem_append_right _ (List.mem_append_left _ h)))))))) (by decide +kernel)
theorem gg_X12_compare_X12_closes : GoodIn w_X12_compare w_X12_closes := goodIn_sub (fun _ h => List.mem_cons_of_mem _ (List.mem_append_right _ (List.mem_append_right _ (List.mem_append_right _ (List.mem_append_right _ (List.mem_append_right _ (List.mem_append_right _ (List.mem_append_right _ (List.mem_append_left _ h))))))))) (by decide +kernel)
theorem gg_X12_compare_X12_put : GoodIn w_X12_compare w_X12_put := goodIn_sub (fun _ h => List.mem_cons_of_mem _ (List.mem_append_right _ (List.mem_append_right _ (List.mem_append_right _ (List.mem_append_right _ (List.mem_append_right _ (List.mem_append_right _ (List.mem_append_right _ (List.mem_append_right _ (List.mem_append_left _ h)))))))))) (by decide +kernel)
theorem gg_X12_compare_X12_plainNumber : GoodIn w_X12_compare w_X12_plainNumber := goodIn_sub (fun _ h => List.mem_cons_of_mem _ (List.mem_append_right _ (List.mem_append_right _ (List.mem_append_right _ (List.mem_append_right _ (List.mem_append_right _ (List.mem_append_right _ (List.mem_append_right _ (List.mem_append_right _ (List.mem_append_right _ (List.mem_append_left _ h))))))))))) (by decide +kernel)
theorem gg_X12_compare_X12_isSign : GoodIn w_X12_compare w_X12_isSign := goodIn_sub (fun _ h => List.mem_cons_of_mem _ (List.mem_append_right _ (List.mem_append_right _ (List.mem_append_right _ (List.mem_append_right _ (List.mem_append_right _ (List.mem_append_right _ (List.mem_append_right _ (List.mem_append_right _ (List.mem_append_right _ (List.mem_append_right _ (List.mem_append_left _ h)))))))))))) (by decide +kernel)
theorem gg_X12_compare_X12_atom : GoodIn w_X12_compare w_X12_atom := goodIn_sub (fun _ h => (List.mem_cons.mp h).elim (fun e => e ▸ List.mem_cons_of_mem _ (List.mem_append_left _ (List.mem_of_getElem? (i := 0) rfl))) (fun h => List.mem_cons_of_mem _ h)) (by decide +kernel)
theorem gg_X12_compare_X12_term : GoodIn w_X12_compare w_X12_term := goodIn_sub (fun _ h => (List.mem_cons.mp h).elim (fun e => e ▸ List.mem_cons_of_mem _ (List.mem_append_left _ (List.mem_of_getElem? (i := 1) rfl))) (fun h => List.mem_cons_of_mem _ h)) (by decide +kernel)
theorem gg_X12_compare_X12_sum : GoodIn w_X12_compare w_X12_sum := goodIn_sub (fun _ h => (List.mem_cons.mp h).elim (fun e => e ▸ List.mem_cons_of_mem _ (List.mem_append_left _ (List.mem_of_getElem? (i := 2) rfl))) (fun h => List.mem_cons_of_mem _ h)) (by decide +kernel)
theorem gg_X12_compare_X12_compare : GoodIn w_X12_compare w_X12_compare := goodIn_sub (fun _ h => (List.mem_cons.mp h).elim (fun e => e ▸ List.mem_cons_of_mem _ (List.mem_append_left _ (List.mem_of_getElem? (i := 3) rfl))) (fun h => List.mem_cons_of_mem _ h)) (by decide +kernel)
theorem gg_X12_compare_X12_unit : GoodIn w_X12_compare w_X12_unit := goodIn_sub (fun _ h => (List.mem_cons.mp h).elim (fun e => e ▸ List.mem_cons_of_mem _ (List.mem_append_left _ (List.mem_of_getElem? (i := 4) rfl))) (fun h => List.mem_cons_of_mem _ h)) (by decide +kernel)
theorem gg_X12_compare_X12_goOnAnd : GoodIn w_X12_compare w_X12_goOnAnd := goodIn_sub (fun _ h => (List.mem_cons.mp h).elim (fun e => e ▸ List.mem_cons_of_mem _ (List.mem_append_left _ (List.mem_of_getElem? (i := 5) rfl))) (fun h => List.mem_cons_of_mem _ h)) (by decide +kernel)
theorem gg_X12_compare_X12_goOnOr : GoodIn w_X12_compare w_X12_goOnOr := goodIn_sub (fun _ h => (List.mem_cons.mp h).elim (fun e => e ▸ List.mem_cons_of_mem _ (List.mem_append_left _ (List.mem_of_getElem? (i := 6) rfl))) (fun h => List.mem_cons_of_mem _ h)) (by decide +kernel)
theorem gg_X12_compare_X12_condition : GoodIn w_X12_compare w_X12_condition := goodIn_sub (fun _ h => (List.mem_cons.mp h).elim (fun e => e ▸ List.mem_cons_of_mem _ (List.mem_append_left _ (List.mem_of_getElem? (i := 7) rfl))) (fun h => List.mem_cons_of_mem _ h)) (by decide +kernel)
theorem in_X12_unit_X12 : ∀ w ∈ u_ws RX12 TX12 54, w ∈ w_X12_unit := fun _ h => List.mem_cons_of_mem _ (List.mem_append_right _ (List.mem_append_left _ h))
theorem gg_X12_unit_X12_look : GoodIn w_X12_unit w_X12_look := goodIn_sub (fun _ h => List.mem_cons_of_mem _ (List.mem_append_right _ (List.mem_append_right _ (List.mem_append_left _ h)))) (by decide +kernel)
theorem gg_X12_unit_X12_isDigit : GoodIn w_X12_unit w_X12_isDigit := goodIn_sub (fun _ h => List.mem_cons_of_mem _ (List.mem_append_right _ (List.mem_append_right _ (List.mem_append_right _ (List.mem_append_left _ h))))) (by decide +kernel)
theorem gg_X12_unit_X12_letterOf : GoodIn w_X12_unit w_X12_letterOf := goodIn_sub (fun _ h => List.mem_cons_of_mem _ (List.mem_append_right _ (List.mem_append_right _ (List.mem_append_right _ (List.mem_append_right _ (List.mem_append_left _ h)))))) (by decide +kernel)
theorem gg_X12_unit_X12_bad : GoodIn w_X12_unit w_X12_bad := goodIn_sub (fun _ h => List.mem_cons_of_mem _ (List.mem_append_right _ (List.mem_append_right _ (List.mem_append_right _ (List.mem_append_right _ (List.mem_append_right _ (List.mem_append_left _ h))))))) (by decide +kernel)
theorem gg_X12_unit_X12_opens : GoodIn w_X12_unit w_X12_opens := goodIn_sub (fun _ h => List.mem_cons_of_mem _ (List.mem_append_right _ (List.mem_append_right _ (List.mem_append_right _ (List.mem_append_right _ (List.mem_append_right _ (List.mem_append_right _ (List.mem_append_left _ h)))))))) (by decide +kernel)
theorem gg_X12_unit_X12_closes : GoodIn w_X12_unit w_X12_closes := goodIn_sub (fun _ h => List.mem_cons_of_mem _ (List.mem_append_right _ (List.mem_append_right _ (List.mem_append_right _ (List.mem_append_right _ (List.mem_append_right _ (List.mem_append_right _ (List.mem_append_right _ (List.mem_append_left _ h))))))))) (by decide +kernel)
theorem gg_X12_unit_X12_put : GoodIn w_X12_unit w_X12_put := goodIn_sub (fun _ h => List.mem_cons_of_mem _ (List.mem_append_right _ (List.mem_append_right _ (List.mem_append_right _ (List.mem_append_right _ (List.mem_append_right _ (List.mem_append_right _ (List.mem_append_right _ (List.mem_append_right _ (List.mem_append_left _ h)))))))))) (by decide +kernel)
theorem gg_X12_unit_X12_plainNumber : GoodIn w_X12_unit w_X12_plainNumber := goodIn_sub (fun _ h => List.mem_cons_of_mem _ (List.mem_append_right _ (List.mem_append_right _ (List.mem_append_right _ (List.mem_append_right _ (List.mem_append_right _ (List.mem_append_right _ (List.mem_append_right _ (List.mem_append_right _ (List.mem_append_right _ (List.mem_append_left _ h))))))))))) (by decide +kernel)
theorem gg_X12_unit_X12_isSign : GoodIn w_X12_unit w_X12_isSign := goodIn_sub (fun _ h => List.mem_cons_of_mem _ (List.mem_append_right _ (List.mem_append_right _ (List.mem_append_right _ (List.mem_append_right _ (List.mem_append_right _ (List.mem_append_right _ (List.mem_append_right _ (List.mem_append_right _ (List.mem_append_right _ (List.mem_append_right _ (List.mem_append_left _ h)))))))))))) (by decide +kernel)
theorem gg_X12_unit_X12_atom : GoodIn w_X12_unit w_X12_atom := goodIn_sub (fun _ h => (List.mem_cons.mp h).elim (fun e => e ▸ List.mem_cons_of_mem _ (List.mem_append_left _ (List.mem_of_getElem? (i := 0) rfl))) (fun h => List.mem_cons_of_mem _ h)) (by decide +kernel)
theorem gg_X12_unit_X12_term : GoodIn w_X12_unit w_X12_term := goodIn_sub (fun _ h => (List.mem_cons.mp h).elim (fun e => e ▸ List.mem_cons_of_mem _ (List.mem_append_left _ (List.mem_of_getElem? (i := 1) rfl))) (fun h => List.mem_cons_of_mem _ h)) (by decide +kernel)
theorem gg_X12_unit_X12_sum : GoodIn w_X12_unit w_X12_sum := goodIn_sub (fun _ h => (List.mem_cons.mp h).elim (fun e => e ▸ List.mem_cons_of_mem _ (List.mem_append_left _ (List.mem_of_getElem? (i := 2) rfl))) (fun h => List.mem_cons_of_mem _ h)) (by decide +kernel)
theorem gg_X12_unit_X12_compare : GoodIn w_X12_unit w_X12_compare := goodIn_sub (fun _ h => (List.mem_cons.mp h).elim (fun e => e ▸ List.mem_cons_of_mem _ (List.mem_append_left _ (List.mem_of_getElem? (i := 3) rfl))) (fun h => List.mem_cons_of_mem _ h)) (by decide +kernel)
theorem gg_X12_unit_X12_unit : GoodIn w_X12_unit w_X12_unit := goodIn_sub (fun _ h => (List.mem_cons.mp h).elim (fun e => e ▸ List.mem_cons_of_mem _ (List.mem_append_left _ (List.mem_of_getElem? (i := 4) rfl))) (fun h => List.mem_cons_of_mem _ h)) (by decide +kernel)
theorem gg_X12_unit_X12_goOnAnd : GoodIn w_X12_unit w_X12_goOnAnd := goodIn_sub (fun _ h => (List.mem_cons.mp h).elim (fun e => e ▸ List.mem_cons_of_mem _ (List.mem_append_left _ (List.mem_of_getElem? (i := 5) rfl))) (fun h => List.mem_cons_of_mem _ h)) (by decide +kernel)
theorem gg_X12_unit_X12_goOnOr : GoodIn w_X12_unit w_X12_goOnOr := goodIn_sub (fun _ h => (List.mem_cons.mp h).elim (fun e => e ▸ List.mem_cons_of_mem _ (List.mem_append_left _ (List.mem_of_getElem? (i := 6) rfl))) (fun h => List.mem_cons_of_mem _ h)) (by decide +kernel)
theorem gg_X12_unit_X12_condition : GoodIn w_X12_unit w_X12_condition := goodIn_sub (fun _ h => (List.mem_cons.mp h).elim (fun e => e ▸ List.mem_cons_of_mem _ (List.mem_append_left _ (List.mem_of_getElem? (i := 7) rfl))) (fun h => List.mem_cons_of_mem _ h)) (by decide +kernel)
theorem in_X12_goOnAnd_X12 : ∀ w ∈ u_ws RX12 TX12 54, w ∈ w_X12_goOnAnd := fun _ h => List.mem_cons_of_mem _ (List.mem_append_right _ (List.mem_append_left _ h))
theorem gg_X12_goOnAnd_X12_look : GoodIn w_X12_goOnAnd w_X12_look := goodIn_sub (fun _ h => List.mem_cons_of_mem _ (List.mem_append_right _ (List.mem_append_right _ (List.mem_append_left _ h)))) (by decide +kernel)
theorem gg_X12_goOnAnd_X12_isDigit : GoodIn w_X12_goOnAnd w_X12_isDigit := goodIn_sub (fun _ h => List.mem_cons_of_mem _ (List.mem_append_right _ (List.mem_append_right _ (List.mem_append_right _ (List.mem_append_left _ h))))) (by decide +kernel)
theorem gg_X12_goOnAnd_X12_letterOf : GoodIn w_X12_goOnAnd w_X12_letterOf := goodIn_sub (fun _ h => List.mem_cons_of_mem _ (List.mem_append_right _ (List.mem_append_right _ (List.mem_append_right _ (List.mem_append_right _ (List.mem_append_left _ h)))))) (by decide +kernel)
theorem gg_X12_goOnAnd_X12_bad : GoodIn w_X12_goOnAnd w_X12_bad := goodIn_sub (fun _ h => List.mem_cons_of_mem _ (List.mem_append_right _ (List.mem_append_right _ (List.mem_append_right _ (List.mem_append_right _ (List.mem_append_right _ (List.mem_append_left _ h))))))) (by decide +kernel)
theorem gg_X12_goOnAnd_X12_opens : GoodIn w_X12_goOnAnd w_X12_opens := goodIn_sub (fun _ h => List.mem_cons_of_mem _ (List.mem_append_right _ (List.mem_append_right _ (List.mem_append_right _ (List.mem_append_right _ (List.mem_append_right _ (List.mem_append_right _ (List.mem_append_left _ h)))))))) (by decide +kernel)
theorem gg_X12_goOnAnd_X12_closes : GoodIn w_X12_goOnAnd w_X12_closes := goodIn_sub (fun _ h => List.mem_cons_of_mem _ (List.mem_append_right _ (List.mem_append_right _ (List.mem_append_right _ (List.mem_append_right _ (List.mem_append_right _ (List.mem_append_right _ (List.mem_append_right _ (List.mem_append_left _ h))))))))) (by decide +kernel)
theorem gg_X12_goOnAnd_X12_put : GoodIn w_X12_goOnAnd w_X12_put := goodIn_sub (fun _ h => List.mem_cons_of_mem _ (List.mem_append_right _ (List.mem_append_right _ (List.mem_append_right _ (List.mem_append_right _ (List.mem_append_right _ (List.mem_append_right _ (List.mem_append_right _ (List.mem_append_right _ (List.mem_append_left _ h)))))))))) (by decide +kernel)
theorem gg_X12_goOnAnd_X12_plainNumber : GoodIn w_X12_goOnAnd w_X12_plainNumber := goodIn_sub (fun _ h => List.mem_cons_of_mem _ (List.mem_append_right _ (List.mem_append_right _ (List.mem_append_right _ (List.mem_append_right _ (List.mem_append_right _ (List.mem_append_right _ (List.mem_append_right _ (List.mem_append_right _ (List.mem_append_right _ (List.mem_append_left _ h))))))))))) (by decide +kernel)
theorem gg_X12_goOnAnd_X12_isSign : GoodIn w_X12_goOnAnd w_X12_isSign := goodIn_sub (fun _ h => List.mem_cons_of_mem _ (List.mem_append_right _ (List.mem_append_right _ (List.mem_append_right _ (List.mem_append_right _ (List.mem_append_right _ (List.mem_append_right _ (List.mem_append_right _ (List.mem_append_right _ (List.mem_append_right _ (List.mem_append_right _ (List.mem_append_left _ h)))))))))))) (by decide +kernel)
theorem gg_X12_goOnAnd_X12_atom : GoodIn w_X12_goOnAnd w_X12_atom := goodIn_sub (fun _ h => (List.mem_cons.mp h).elim (fun e => e ▸ List.mem_cons_of_mem _ (List.mem_append_left _ (List.mem_of_getElem? (i := 0) rfl))) (fun h => List.mem_cons_of_mem _ h)) (by decide +kernel)
theorem gg_X12_goOnAnd_X12_term : GoodIn w_X12_goOnAnd w_X12_term := goodIn_sub (fun _ h => (List.mem_cons.mp h).elim (fun e => e ▸ List.mem_cons_of_mem _ (List.mem_append_left _ (List.mem_of_getElem? (i := 1) rfl))) (fun h => List.mem_cons_of_mem _ h)) (by decide +kernel)
theorem gg_X12_goOnAnd_X12_sum : GoodIn w_X12_goOnAnd w_X12_sum := goodIn_sub (fun _ h => (List.mem_cons.mp h).elim (fun e => e ▸ List.mem_cons_of_mem _ (List.mem_append_left _ (List.mem_of_getElem? (i := 2) rfl))) (fun h => List.mem_cons_of_mem _ h)) (by decide +kernel)
theorem gg_X12_goOnAnd_X12_compare : GoodIn w_X12_goOnAnd w_X12_compare := goodIn_sub (fun _ h => (List.mem_cons.mp h).elim (fun e => e ▸ List.mem_cons_of_mem _ (List.mem_append_left _ (List.mem_of_getElem? (i := 3) rfl))) (fun h => List.mem_cons_of_mem _ h)) (by decide +kernel)
theorem gg_X12_goOnAnd_X12_unit : GoodIn w_X12_goOnAnd w_X12_unit := goodIn_sub (fun _ h => (List.mem_cons.mp h).elim (fun e => e ▸ List.mem_cons_of_mem _ (List.mem_append_left _ (List.mem_of_getElem? (i := 4) rfl))) (fun h => List.mem_cons_of_mem _ h)) (by decide +kernel)
theorem gg_X12_goOnAnd_X12_goOnAnd : GoodIn w_X12_goOnAnd w_X12_goOnAnd := goodIn_sub (fun _ h => (List.mem_cons.mp h).elim (fun e => e ▸ List.mem_cons_of_mem _ (List.mem_append_left _ (List.mem_of_getElem? (i := 5) rfl))) (fun h => List.mem_cons_of_mem _ h)) (by decide +kernel)
theorem gg_X12_goOnAnd_X12_goOnOr : GoodIn w_X12_goOnAnd w_X12_goOnOr := goodIn_sub (fun _ h => (List.mem_cons.mp h).elim (fun e => e ▸ List.mem_cons_of_mem _ (List.mem_append_left _ (List.mem_of_getElem? (i := 6) rfl))) (fun h => List.mem_cons_of_mem _ h)) (by decide +kernel)
theorem gg_X12_goOnAnd_X12_condition : GoodIn w_X12_goOnAnd w_X12_condition := goodIn_sub (fun _ h => (List.mem_cons.mp h).elim (fun e => e ▸ List.mem_cons_of_mem _ (List.mem_append_left _ (List.mem_of_getElem? (i := 7) rfl))) (fun h => List.mem_cons_of_mem _ h)) (by decide +kernel)
theorem in_X12_goOnOr_X12 : ∀ w ∈ u_ws RX12 TX12 54, w ∈ w_X12_goOnOr := fun _ h => List.mem_cons_of_mem _ (List.mem_append_right _ (List.mem_append_left _ h))
theorem gg_X12_goOnOr_X12_look : GoodIn w_X12_goOnOr w_X12_look := goodIn_sub (fun _ h => List.mem_cons_of_mem _ (List.mem_append_right _ (List.mem_append_right _ (List.mem_append_left _ h)))) (by decide +kernel)
theorem gg_X12_goOnOr_X12_isDigit : GoodIn w_X12_goOnOr w_X12_isDigit := goodIn_sub (fun _ h => List.mem_cons_of_mem _ (List.mem_append_right _ (List.mem_append_right _ (List.mem_append_right _ (List.mem_append_left _ h))))) (by decide +kernel)
theorem gg_X12_goOnOr_X12_letterOf : GoodIn w_X12_goOnOr w_X12_letterOf := goodIn_sub (fun _ h => List.mem_cons_of_mem _ (List.mem_append_right _ (List.mem_append_right _ (List.mem_append_right _ (List.mem_append_right _ (List.mem_append_left _ h)))))) (by decide +kernel)
theorem gg_X12_goOnOr_X12_bad : GoodIn w_X12_goOnOr w_X12_bad := goodIn_sub (fun _ h => List.mem_cons_of_mem _ (List.mem_append_right _ (List.mem_append_right _ (List.mem_append_right _ (List.mem_append_right _ (List.mem_append_right _ (List.mem_append_left _ h))))))) (by decide +kernel)
theorem gg_X12_goOnOr_X12_opens : GoodIn w_X12_goOnOr w_X12_opens := goodIn_sub (fun _ h => List.mem_cons_of_mem _ (List.mem_append_right _ (List.mem_append_right _ (List.mem_append_right _ (List.mem_append_right _ (List.mem_append_right _ (List.mem_append_right _ (List.mem_append_left _ h)))))))) (by decide +kernel)
theorem gg_X12_goOnOr_X12_closes : GoodIn w_X12_goOnOr w_X12_closes := goodIn_sub (fun _ h => List.mem_cons_of_mem _ (List.mem_append_right _ (List.mem_append_right _ (List.mem_append_right _ (List.mem_append_right _ (List.mem_append_right _ (List.mem_append_right _ (List.mem_append_right _ (List.mem_append_left _ h))))))))) (by decide +kernel)
theorem gg_X12_goOnOr_X12_put : GoodIn w_X12_goOnOr w_X12_put := goodIn_sub (fun _ h => List.mem_cons_of_mem _ (List.mem_append_right _ (List.mem_append_right _ (List.mem_append_right _ (List.mem_append_right _ (List.mem_append_right _ (List.mem_append_right _ (List.mem_append_right _ (List.mem_append_right _ (List.mem_append_left _ h)))))))))) (by decide +kernel)
theorem gg_X12_goOnOr_X12_plainNumber : GoodIn w_X12_goOnOr w_X12_plainNumber := goodIn_sub (fun _ h => List.mem_cons_of_mem _ (List.mem_append_right _ (List.mem_append_right _ (List.mem_append_right _ (List.mem_append_right _ (List.mem_append_right _ (List.mem_append_right _ (List.mem_append_right _ (List.mem_append_right _ (List.mem_append_right _ (List.mem_append_left _ h))))))))))) (by decide +kernel)
theorem gg_X12_goOnOr_X12_isSign : GoodIn w_X12_goOnOr w_X12_isSign := goodIn_sub (fun _ h => List.mem_cons_of_mem _ (List.mem_append_right _ (List.mem_append_right _ (List.mem_append_right _ (List.mem_append_right _ (List.mem_append_right _ (List.mem_append_right _ (List.mem_append_right _ (List.mem_append_right _ (List.mem_append_right _ (List.mem_append_right _ (List.mem_append_left _ h)))))))))))) (by decide +kernel)
theorem gg_X12_goOnOr_X12_atom : GoodIn w_X12_goOnOr w_X12_atom := goodIn_sub (fun _ h => (List.mem_cons.mp h).elim (fun e => e ▸ List.mem_cons_of_mem _ (List.mem_append_left _ (List.mem_of_getElem? (i := 0) rfl))) (fun h => List.mem_cons_of_mem _ h)) (by decide +kernel)
theorem gg_X12_goOnOr_X12_term : GoodIn w_X12_goOnOr w_X12_term := goodIn_sub (fun _ h => (List.mem_cons.mp h).elim (fun e => e ▸ List.mem_cons_of_mem _ (List.mem_append_left _ (List.mem_of_getElem? (i := 1) rfl))) (fun h => List.mem_cons_of_mem _ h)) (by decide +kernel)
theorem gg_X12_goOnOr_X12_sum : GoodIn w_X12_goOnOr w_X12_sum := goodIn_sub (fun _ h => (List.mem_cons.mp h).elim (fun e => e ▸ List.mem_cons_of_mem _ (List.mem_append_left _ (List.mem_of_getElem? (i := 2) rfl))) (fun h => List.mem_cons_of_mem _ h)) (by decide +kernel)
theorem gg_X12_goOnOr_X12_compare : GoodIn w_X12_goOnOr w_X12_compare := goodIn_sub (fun _ h => (List.mem_cons.mp h).elim (fun e => e ▸ List.mem_cons_of_mem _ (List.mem_append_left _ (List.mem_of_getElem? (i := 3) rfl))) (fun h => List.mem_cons_of_mem _ h)) (by decide +kernel)
theorem gg_X12_goOnOr_X12_unit : GoodIn w_X12_goOnOr w_X12_unit := goodIn_sub (fun _ h => (List.mem_cons.mp h).elim (fun e => e ▸ List.mem_cons_of_mem _ (List.mem_append_left _ (List.mem_of_getElem? (i := 4) rfl))) (fun h => List.mem_cons_of_mem _ h)) (by decide +kernel)
theorem gg_X12_goOnOr_X12_goOnAnd : GoodIn w_X12_goOnOr w_X12_goOnAnd := goodIn_sub (fun _ h => (List.mem_cons.mp h).elim (fun e => e ▸ List.mem_cons_of_mem _ (List.mem_append_left _ (List.mem_of_getElem? (i := 5) rfl))) (fun h => List.mem_cons_of_mem _ h)) (by decide +kernel)
theorem gg_X12_goOnOr_X12_goOnOr : GoodIn w_X12_goOnOr w_X12_goOnOr := goodIn_sub (fun _ h => (List.mem_cons.mp h).elim (fun e => e ▸ List.mem_cons_of_mem _ (List.mem_append_left _ (List.mem_of_getElem? (i := 6) rfl))) (fun h => List.mem_cons_of_mem _ h)) (by decide +kernel)
theorem gg_X12_goOnOr_X12_condition : GoodIn w_X12_goOnOr w_X12_condition := goodIn_sub (fun _ h => (List.mem_cons.mp h).elim (fun e => e ▸ List.mem_cons_of_mem _ (List.mem_append_left _ (List.mem_of_getElem? (i := 7) rfl))) (fun h => List.mem_cons_of_mem _ h)) (by decide +kernel)
theorem in_X12_condition_X12 : ∀ w ∈ u_ws RX12 TX12 54, w ∈ w_X12_condition := fun _ h => List.mem_cons_of_mem _ (List.mem_append_right _ (List.mem_append_left _ h))
theorem gg_X12_condition_X12_look : GoodIn w_X12_condition w_X12_look := goodIn_sub (fun _ h => List.mem_cons_of_mem _ (List.mem_append_right _ (List.mem_append_right _ (List.mem_append_left _ h)))) (by decide +kernel)
theorem gg_X12_condition_X12_isDigit : GoodIn w_X12_condition w_X12_isDigit := goodIn_sub (fun _ h => List.mem_cons_of_mem _ (List.mem_append_right _ (List.mem_append_right _ (List.mem_append_right _ (List.mem_append_left _ h))))) (by decide +kernel)
theorem gg_X12_condition_X12_letterOf : GoodIn w_X12_condition w_X12_letterOf := goodIn_sub (fun _ h => List.mem_cons_of_mem _ (List.mem_append_right _ (List.mem_append_right _ (List.mem_append_right _ (List.mem_append_right _ (List.mem_append_left _ h)))))) (by decide +kernel)
theorem gg_X12_condition_X12_bad : GoodIn w_X12_condition w_X12_bad := goodIn_sub (fun _ h => List.mem_cons_of_mem _ (List.mem_append_right _ (List.mem_append_right _ (List.mem_append_right _ (List.mem_append_right _ (List.mem_append_right _ (List.mem_append_left _ h))))))) (by decide +kernel)
theorem gg_X12_condition_X12_opens : GoodIn w_X12_condition w_X12_opens := goodIn_sub (fun _ h => List.mem_cons_of_mem _ (List.mem_append_right _ (List.mem_append_right _ (List.mem_append_right _ (List.mem_append_right _ (List.mem_append_right _ (List.mem_append_right _ (List.mem_append_left _ h)))))))) (by decide +kernel)
theorem gg_X12_condition_X12_closes : GoodIn w_X12_condition w_X12_closes := goodIn_sub (fun _ h => List.mem_cons_of_mem _ (List.mem_append_right _ (List.mem_append_right _ (List.mem_append_right _ (List.mem_append_right _ (List.mem_append_right _ (List.mem_append_right _ (List.mem_append_right _ (List.mem_append_left _ h))))))))) (by decide +kernel)
theorem gg_X12_condition_X12_put : GoodIn w_X12_condition w_X12_put := goodIn_sub (fun _ h => List.mem_cons_of_mem _ (List.mem_append_right _ (List.mem_append_right _ (List.mem_append_right _ (List.mem_append_right _ (List.mem_append_right _ (List.mem_append_right _ (List.mem_append_right _ (List.mem_append_right _ (List.mem_append_left _ h)))))))))) (by decide +kernel)
theorem gg_X12_condition_X12_plainNumber : GoodIn w_X12_condition w_X12_plainNumber := goodIn_sub (fun _ h => List.mem_cons_of_mem _ (List.mem_append_right _ (List.mem_append_right _ (List.mem_append_right _ (List.mem_append_right _ (List.mem_append_right _ (List.mem_append_right _ (List.mem_append_right _ (List.mem_append_right _ (List.mem_append_right _ (List.mem_append_left _ h))))))))))) (by decide +kernel)
theorem gg_X12_condition_X12_isSign : GoodIn w_X12_condition w_X12_isSign := goodIn_sub (fun _ h => List.mem_cons_of_mem _ (List.mem_append_right _ (List.mem_append_right _ (List.mem_append_right _ (List.mem_append_right _ (List.mem_append_right _ (List.mem_append_right _ (List.mem_append_right _ (List.mem_append_right _ (List.mem_append_right _ (List.mem_append_right _ (List.mem_append_left _ h)))))))))))) (by decide +kernel)
theorem gg_X12_condition_X12_atom : GoodIn w_X12_condition w_X12_atom := goodIn_sub (fun _ h => (List.mem_cons.mp h).elim (fun e => e ▸ List.mem_cons_of_mem _ (List.mem_append_left _ (List.mem_of_getElem? (i := 0) rfl))) (fun h => List.mem_cons_of_mem _ h)) (by decide +kernel)
theorem gg_X12_condition_X12_term : GoodIn w_X12_condition w_X12_term := goodIn_sub (fun _ h => (List.mem_cons.mp h).elim (fun e => e ▸ List.mem_cons_of_mem _ (List.mem_append_left _ (List.mem_of_getElem? (i := 1) rfl))) (fun h => List.mem_cons_of_mem _ h)) (by decide +kernel)
theorem gg_X12_condition_X12_sum : GoodIn w_X12_condition w_X12_sum := goodIn_sub (fun _ h => (List.mem_cons.mp h).elim (fun e => e ▸ List.mem_cons_of_mem _ (List.mem_append_left _ (List.mem_of_getElem? (i := 2) rfl))) (fun h => List.mem_cons_of_mem _ h)) (by decide +kernel)
theorem gg_X12_condition_X12_compare : GoodIn w_X12_condition w_X12_compare := goodIn_sub (fun _ h => (List.mem_cons.mp h).elim (fun e => e ▸ List.mem_cons_of_mem _ (List.mem_append_left _ (List.mem_of_getElem? (i := 3) rfl))) (fun h => List.mem_cons_of_mem _ h)) (by decide +kernel)
theorem gg_X12_condition_X12_unit : GoodIn w_X12_condition w_X12_unit := goodIn_sub (fun _ h => (List.mem_cons.mp h).elim (fun e => e ▸ List.mem_cons_of_mem _ (List.mem_append_left _ (List.mem_of_getElem? (i := 4) rfl))) (fun h => List.mem_cons_of_mem _ h)) (by decide +kernel)
theorem gg_X12_condition_X12_goOnAnd : GoodIn w_X12_condition w_X12_goOnAnd := goodIn_sub (fun _ h => (List.mem_cons.mp h).elim (fun e => e ▸ List.mem_cons_of_mem _ (List.mem_append_left _ (List.mem_of_getElem? (i := 5) rfl))) (fun h => List.mem_cons_of_mem _ h)) (by decide +kernel)
theorem gg_X12_condition_X12_goOnOr : GoodIn w_X12_condition w_X12_goOnOr := goodIn_sub (fun _ h => (List.mem_cons.mp h).elim (fun e => e ▸ List.mem_cons_of_mem _ (List.mem_append_left _ (List.mem_of_getElem? (i := 6) rfl))) (fun h => List.mem_cons_of_mem _ h)) (by decide +kernel)
theorem gg_X12_condition_X12_condition : GoodIn w_X12_condition w_X12_condition := goodIn_sub (fun _ h => (List.mem_cons.mp h).elim (fun e => e ▸ List.mem_cons_of_mem _ (List.mem_append_left _ (List.mem_of_getElem? (i := 7) rfl))) (fun h => List.mem_cons_of_mem _ h)) (by decide +kernel)
theorem g_X12_atom_X12_bad_143 : GoodIn w_X12_atom (wsV RX12 143 RX12 yX12_bad w_X12_bad) := goodIn_app (goodIn_of _ (by decide +kernel)) gg_X12_atom_X12_bad
theorem g_X12_atom_X12_closes_170 : GoodIn w_X12_atom (wsV RX12 170 RX12 yX12_closes w_X12_closes) := goodIn_app (goodIn_of _ (by decide +kernel)) gg_X12_atom_X12_closes
theorem g_X12_atom_X12_isDigit_149 : GoodIn w_X12_atom (va_wsS RX12 149 yX12_isDigit w_X12_isDigit) := goodIn_app (goodIn_of _ (by decide +kernel)) gg_X12_atom_X12_isDigit
theorem g_X12_atom_X12_letterOf_160 : GoodIn w_X12_atom (va_wsS RX12 160 yX12_letterOf w_X12_letterOf) := goodIn_app (goodIn_of _ (by decide +kernel)) gg_X12_atom_X12_letterOf
theorem g_X12_atom_X12_look_146 : GoodIn w_X12_atom (wsV RX12 146 RX12 yX12_look w_X12_look) := goodIn_app (goodIn_of _ (by decide +kernel)) gg_X12_atom_X12_look
theorem g_X12_atom_X12_opens_164 : GoodIn w_X12_atom (wsV RX12 164 RX12 yX12_opens w_X12_opens) := goodIn_app (goodIn_of _ (by decide +kernel)) gg_X12_atom_X12_opens
theorem g_X12_atom_X12_plainNumber_153 : GoodIn w_X12_atom (wsV RX12 153 RX12 yX12_plainNumber w_X12_plainNumber) := goodIn_app (goodIn_of _ (by decide +kernel)) gg_X12_atom_X12_plainNumber
theorem g_X12_atom_X12_put_156 : GoodIn w_X12_atom (wsV RX12 156 RX12 yX12_put w_X12_put) := goodIn_app (goodIn_of _ (by decide +kernel)) gg_X12_atom_X12_put
theorem g_X12_atom_X12_sum_167 : GoodIn w_X12_atom (wsV RX12 167 RX12 yX12_sum w_X12_sum) := goodIn_app (goodIn_of _ (by decide +kernel)) gg_X12_atom_X12_sum
theorem g_X12_compare_X12_bad_143 : GoodIn w_X12_compare (wsV RX12 143 RX12 yX12_bad w_X12_bad) := goodIn_app (goodIn_of _ (by decide +kernel)) gg_X12_compare_X12_bad
theorem g_X12_compare_X12_isSign_180 : GoodIn w_X12_compare (va_wsS RX12 180 yX12_isSign w_X12_isSign) := goodIn_app (goodIn_of _ (by decide +kernel)) gg_X12_compare_X12_isSign
theorem g_X12_compare_X12_look_146 : GoodIn w_X12_compare (wsV RX12 146 RX12 yX12_look w_X12_look) := goodIn_app (goodIn_of _ (by decide +kernel)) gg_X12_compare_X12_look
theorem g_X12_compare_X12_put_156 : GoodIn w_X12_compare (wsV RX12 156 RX12 yX12_put w_X12_put) := goodIn_app (goodIn_of _ (by decide +kernel)) gg_X12_compare_X12_put
theorem g_X12_compare_X12_sum_167 : GoodIn w_X12_compare (wsV RX12 167 RX12 yX12_sum w_X12_sum) := goodIn_app (goodIn_of _ (by decide +kernel)) gg_X12_compare_X12_sum
theorem g_X12_condition_X12_goOnAnd_192 : GoodIn w_X12_condition (wsV RX12 192 RX12 yX12_goOnAnd w_X12_goOnAnd) := goodIn_app (goodIn_of _ (by decide +kernel)) gg_X12_condition_X12_goOnAnd
theorem g_X12_condition_X12_goOnOr_195 : GoodIn w_X12_condition (wsV RX12 195 RX12 yX12_goOnOr w_X12_goOnOr) := goodIn_app (goodIn_of _ (by decide +kernel)) gg_X12_condition_X12_goOnOr
theorem g_X12_condition_X12_unit_183 : GoodIn w_X12_condition (wsV RX12 183 RX12 yX12_unit w_X12_unit) := goodIn_app (goodIn_of _ (by decide +kernel)) gg_X12_condition_X12_unit
theorem g_X12_goOnAnd_X12_look_146 : GoodIn w_X12_goOnAnd (wsV RX12 146 RX12 yX12_look w_X12_look) := goodIn_app (goodIn_of _ (by decide +kernel)) gg_X12_goOnAnd_X12_look
theorem g_X12_goOnAnd_X12_put_156 : GoodIn w_X12_goOnAnd (wsV RX12 156 RX12 yX12_put w_X12_put) := goodIn_app (goodIn_of _ (by decide +kernel)) gg_X12_goOnAnd_X12_put
theorem g_X12_goOnAnd_X12_unit_183 : GoodIn w_X12_goOnAnd (wsV RX12 183 RX12 yX12_unit w_X12_unit) := goodIn_app (goodIn_of _ (by decide +kernel)) gg_X12_goOnAnd_X12_unit
theorem g_X12_goOnOr_X12_goOnAnd_192 : GoodIn w_X12_goOnOr (wsV RX12 192 RX12 yX12_goOnAnd w_X12_goOnAnd) := goodIn_app (goodIn_of _ (by decide +kernel)) gg_X12_goOnOr_X12_goOnAnd
theorem g_X12_goOnOr_X12_look_146 : GoodIn w_X12_goOnOr (wsV RX12 146 RX12 yX12_look w_X12_look) := goodIn_app (goodIn_of _ (by decide +kernel)) gg_X12_goOnOr_X12_look
theorem g_X12_goOnOr_X12_put_156 : GoodIn w_X12_goOnOr (wsV RX12 156 RX12 yX12_put w_X12_put) := goodIn_app (goodIn_of _ (by decide +kernel)) gg_X12_goOnOr_X12_put
theorem g_X12_goOnOr_X12_unit_183 : GoodIn w_X12_goOnOr (wsV RX12 183 RX12 yX12_unit w_X12_unit) := goodIn_app (goodIn_of _ (by decide +kernel)) gg_X12_goOnOr_X12_unit
theorem g_X12_sum_X12_look_146 : GoodIn w_X12_sum (wsV RX12 146 RX12 yX12_look w_X12_look) := goodIn_app (goodIn_of _ (by decide +kernel)) gg_X12_sum_X12_look
theorem g_X12_sum_X12_put_156 : GoodIn w_X12_sum (wsV RX12 156 RX12 yX12_put w_X12_put) := goodIn_app (goodIn_of _ (by decide +kernel)) gg_X12_sum_X12_put
theorem g_X12_sum_X12_term_177 : GoodIn w_X12_sum (wsV RX12 177 RX12 yX12_term w_X12_term) := goodIn_app (goodIn_of _ (by decide +kernel)) gg_X12_sum_X12_term
theorem g_X12_term_X12_atom_174 : GoodIn w_X12_term (wsV RX12 174 RX12 yX12_atom w_X12_atom) := goodIn_app (goodIn_of _ (by decide +kernel)) gg_X12_term_X12_atom
theorem g_X12_term_X12_look_146 : GoodIn w_X12_term (wsV RX12 146 RX12 yX12_look w_X12_look) := goodIn_app (goodIn_of _ (by decide +kernel)) gg_X12_term_X12_look
theorem g_X12_term_X12_put_156 : GoodIn w_X12_term (wsV RX12 156 RX12 yX12_put w_X12_put) := goodIn_app (goodIn_of _ (by decide +kernel)) gg_X12_term_X12_put
theorem g_X12_unit_X12_closes_170 : GoodIn w_X12_unit (wsV RX12 170 RX12 yX12_closes w_X12_closes) := goodIn_app (goodIn_of _ (by decide +kernel)) gg_X12_unit_X12_closes
theorem g_X12_unit_X12_compare_189 : GoodIn w_X12_unit (wsV RX12 189 RX12 yX12_compare w_X12_compare) := goodIn_app (goodIn_of _ (by decide +kernel)) gg_X12_unit_X12_compare
theorem g_X12_unit_X12_condition_186 : GoodIn w_X12_unit (wsV RX12 186 RX12 yX12_condition w_X12_condition) := goodIn_app (goodIn_of _ (by decide +kernel)) gg_X12_unit_X12_condition
theorem g_X12_unit_X12_look_146 : GoodIn w_X12_unit (wsV RX12 146 RX12 yX12_look w_X12_look) := goodIn_app (goodIn_of _ (by decide +kernel)) gg_X12_unit_X12_look
theorem g_X12_unit_X12_opens_164 : GoodIn w_X12_unit (wsV RX12 164 RX12 yX12_opens w_X12_opens) := goodIn_app (goodIn_of _ (by decide +kernel)) gg_X12_unit_X12_opens
theorem g_X12_unit_X12_put_156 : GoodIn w_X12_unit (wsV RX12 156 RX12 yX12_put w_X12_put) := goodIn_app (goodIn_of _ (by decide +kernel)) gg_X12_unit_X12_put
theorem g_X12_unit_X12_sum_167 : GoodIn w_X12_unit (wsV RX12 167 RX12 yX12_sum w_X12_sum) := goodIn_app (goodIn_of _ (by decide +kernel)) gg_X12_unit_X12_sum
theorem g_X12_unit_X12_unit_183 : GoodIn w_X12_unit (wsV RX12 183 RX12 yX12_unit w_X12_unit) := goodIn_app (goodIn_of _ (by decide +kernel)) gg_X12_unit_X12_unit

def Q_atom (l : Launch) (E : py_E) (G : wf_G) (wb : Int) (fr lo : Nat) : Prop := ∀ (L : List Nat) (f : py_F) (sz : Nat) (u : Nat) (gb : rs_B) (nb : Int) (pb : Int) (eb : Nat), WF E G L f → G.1 u = 13 → (mi f u 4 = -1 ∧ wb ≤ mi f u 5 ∧ mi f u 5 ≤ 6 ∧ 0 ≤ mi f u 3 ∧ mi f u 3 ≤ mi f u 2 ∧ cdv f G u ≤ mi f u 3) → (mi f u 2 = nb ∧ mi f u 3 = pb) → (mi f u 5 = 6 - ((eb : Nat) : Int)) → (AG f (G.2 u 1) gb nb) → Met l yX12_atom w_X12_atom ({ frames := fr, cells := 0, slots := 0, locals := lo }) (py_Pc E [.ref u] L f sz) (py_Qv E L f sz (fun L1 f1 => (mi f u 3 ≤ mi f1 u 3 ∧ cdv f1 G u - cdv f G u ≤ mi f1 u 3 - mi f u 3 ∧ mi f1 u 3 ≤ 167 - mi f u 5) ∧ (mi f1 u 4 = -1 → mi f1 u 5 = mi f u 5 ∧ mi f1 u 3 ≤ mi f u 2) ∧ (TR f f1 G u (13 - 2 * wb) 0 1) ∧ (mi f1 u 4 = -1 → (rs_at gb nb eb pb).1 ≠ 0 ∧ mi f1 u 3 = (rs_at gb nb eb pb).2) ∧ (mi f1 u 4 ≠ -1 → (rs_at gb nb eb pb).1 = 0 ∧ mi f1 u 4 = (rs_at gb nb eb pb).2) ∧ WF E G L1 f1 ∧ KP G [41, 42, 43, 13] false f f1 ∧ FK [3, 4, 5] f f1 u)) 0 0 (va_A (va_pl L f) sz)
def Q_term (l : Launch) (E : py_E) (G : wf_G) (wb : Int) (fr lo : Nat) : Prop := ∀ (L : List Nat) (f : py_F) (sz : Nat) (u : Nat) (gb : rs_B) (nb : Int) (pb : Int) (eb : Nat), WF E G L f → G.1 u = 13 → (mi f u 4 = -1 ∧ wb ≤ mi f u 5 ∧ mi f u 5 ≤ 6 ∧ 0 ≤ mi f u 3 ∧ mi f u 3 ≤ mi f u 2 ∧ cdv f G u ≤ mi f u 3) → (mi f u 2 = nb ∧ mi f u 3 = pb) → (mi f u 5 = 6 - ((eb : Nat) : Int)) → (AG f (G.2 u 1) gb nb) → Met l yX12_term w_X12_term ({ frames := fr, cells := 0, slots := 0, locals := lo }) (py_Pc E [.ref u] L f sz) (py_Qv E L f sz (fun L1 f1 => (mi f u 3 ≤ mi f1 u 3 ∧ cdv f1 G u - cdv f G u ≤ mi f1 u 3 - mi f u 3 ∧ mi f1 u 3 ≤ 167 - mi f u 5) ∧ (mi f1 u 4 = -1 → mi f1 u 5 = mi f u 5 ∧ mi f1 u 3 ≤ mi f u 2) ∧ (TR f f1 G u (14 - 2 * wb) 0 1) ∧ (mi f1 u 4 = -1 → (rs_tm gb nb eb pb).1 ≠ 0 ∧ mi f1 u 3 = (rs_tm gb nb eb pb).2) ∧ (mi f1 u 4 ≠ -1 → (rs_tm gb nb eb pb).1 = 0 ∧ mi f1 u 4 = (rs_tm gb nb eb pb).2) ∧ WF E G L1 f1 ∧ KP G [41, 42, 43, 13] false f f1 ∧ FK [3, 4, 5] f f1 u)) 0 0 (va_A (va_pl L f) sz)
def Q_sum (l : Launch) (E : py_E) (G : wf_G) (wb : Int) (fr lo : Nat) : Prop := ∀ (L : List Nat) (f : py_F) (sz : Nat) (u : Nat) (gb : rs_B) (nb : Int) (pb : Int) (eb : Nat), WF E G L f → G.1 u = 13 → (mi f u 4 = -1 ∧ wb ≤ mi f u 5 ∧ mi f u 5 ≤ 6 ∧ 0 ≤ mi f u 3 ∧ mi f u 3 ≤ mi f u 2 ∧ cdv f G u ≤ mi f u 3) → (mi f u 2 = nb ∧ mi f u 3 = pb) → (mi f u 5 = 6 - ((eb : Nat) : Int)) → (AG f (G.2 u 1) gb nb) → Met l yX12_sum w_X12_sum ({ frames := fr, cells := 0, slots := 0, locals := lo }) (py_Pc E [.ref u] L f sz) (py_Qv E L f sz (fun L1 f1 => (mi f u 3 ≤ mi f1 u 3 ∧ cdv f1 G u - cdv f G u ≤ mi f1 u 3 - mi f u 3 ∧ mi f1 u 3 ≤ 167 - mi f u 5) ∧ (mi f1 u 4 = -1 → mi f1 u 5 = mi f u 5 ∧ mi f1 u 3 ≤ mi f u 2) ∧ (TR f f1 G u (15 - 2 * wb) 0 1) ∧ (mi f1 u 4 = -1 → (rs_sm gb nb eb pb).1 ≠ 0 ∧ mi f1 u 3 = (rs_sm gb nb eb pb).2) ∧ (mi f1 u 4 ≠ -1 → (rs_sm gb nb eb pb).1 = 0 ∧ mi f1 u 4 = (rs_sm gb nb eb pb).2) ∧ WF E G L1 f1 ∧ KP G [41, 42, 43, 13] false f f1 ∧ FK [3, 4, 5] f f1 u)) 0 0 (va_A (va_pl L f) sz)
def Q_compare (l : Launch) (E : py_E) (G : wf_G) (wb : Int) (fr lo : Nat) : Prop := ∀ (L : List Nat) (f : py_F) (sz : Nat) (u : Nat) (gb : rs_B) (nb : Int) (eb : Nat) (pb : Int), WF E G L f → G.1 u = 13 → (mi f u 4 = -1 ∧ wb ≤ mi f u 5 ∧ mi f u 5 ≤ 6 ∧ 0 ≤ mi f u 3 ∧ mi f u 3 ≤ mi f u 2 ∧ cdv f G u ≤ mi f u 3) → (mi f u 2 = nb ∧ mi f u 3 = pb) → (mi f u 5 = 6 - ((eb : Nat) : Int)) → (AG f (G.2 u 1) gb nb) → Met l yX12_compare w_X12_compare ({ frames := fr, cells := 0, slots := 0, locals := lo }) (py_Pc E [.ref u] L f sz) (py_Qv E L f sz (fun L1 f1 => (mi f u 3 ≤ mi f1 u 3 ∧ cdv f1 G u - cdv f G u ≤ mi f1 u 3 - mi f u 3) ∧ (mi f u 4 = -1 → mi f1 u 3 ≤ 167 - mi f u 5) ∧ (mi f u 4 ≠ -1 → mi f1 u 3 = mi f u 3 ∧ mi f1 u 4 ≠ -1) ∧ (mi f1 u 4 = -1 → mi f1 u 5 = mi f u 5 ∧ mi f1 u 3 ≤ mi f u 2) ∧ (TR f f1 G u (16 - 2 * wb) 1 1) ∧ (mi f1 u 4 = -1 → (rs_cmp gb nb eb pb).1 ≠ 0 ∧ mi f1 u 3 = (rs_cmp gb nb eb pb).2) ∧ (mi f1 u 4 ≠ -1 → (rs_cmp gb nb eb pb).1 = 0 ∧ mi f1 u 4 = (rs_cmp gb nb eb pb).2) ∧ WF E G L1 f1 ∧ KP G [41, 42, 43, 13] false f f1 ∧ FK [3, 4, 5] f f1 u)) 0 0 (va_A (va_pl L f) sz)
def Q_unit (l : Launch) (E : py_E) (G : wf_G) (wb : Int) (fr lo : Nat) : Prop := ∀ (L : List Nat) (f : py_F) (sz : Nat) (u : Nat) (gb : rs_B) (nb : Int) (pb : Int) (eb : Nat), WF E G L f → G.1 u = 13 → (mi f u 4 = -1 ∧ wb ≤ mi f u 5 ∧ mi f u 5 ≤ 6 ∧ 0 ≤ mi f u 3 ∧ mi f u 3 ≤ mi f u 2 ∧ cdv f G u ≤ mi f u 3) → (mi f u 2 = nb ∧ mi f u 3 = pb) → (mi f u 5 = 6 - ((eb : Nat) : Int)) → (AG f (G.2 u 1) gb nb) → Met l yX12_unit w_X12_unit ({ frames := fr, cells := 0, slots := 0, locals := lo }) (py_Pc E [.ref u] L f sz) (py_Qv E L f sz (fun L1 f1 => (mi f u 3 ≤ mi f1 u 3 ∧ cdv f1 G u - cdv f G u ≤ mi f1 u 3 - mi f u 3 ∧ mi f1 u 3 ≤ 167 - mi f u 5) ∧ (mi f1 u 4 = -1 → mi f1 u 5 = mi f u 5 ∧ mi f1 u 3 ≤ mi f u 2) ∧ (TR f f1 G u (18 - 2 * wb) 0 1) ∧ (mi f1 u 4 = -1 → (rs_un gb nb eb pb).1 ≠ 0 ∧ mi f1 u 3 = (rs_un gb nb eb pb).2) ∧ (mi f1 u 4 ≠ -1 → (rs_un gb nb eb pb).1 = 0 ∧ mi f1 u 4 = (rs_un gb nb eb pb).2) ∧ WF E G L1 f1 ∧ KP G [41, 42, 43, 13] false f f1 ∧ FK [3, 4, 5] f f1 u)) 0 0 (va_A (va_pl L f) sz)
def Q_goOnAnd (l : Launch) (E : py_E) (G : wf_G) (wb : Int) (fr lo : Nat) : Prop := ∀ (L : List Nat) (f : py_F) (sz : Nat) (u : Nat) (gb : rs_B) (nb : Int) (eb : Nat) (w0 : rs_R), WF E G L f → G.1 u = 13 → ((mi f u 4 = -1 → wb ≤ mi f u 5 ∧ mi f u 5 ≤ 6 ∧ mi f u 3 ≤ mi f u 2) ∧ 0 ≤ mi f u 3 ∧ cdv f G u ≤ mi f u 3) → (mi f u 2 = nb) → (mi f u 4 = -1 → mi f u 5 = 6 - ((eb : Nat) : Int)) → ((mi f u 4 = -1 → w0.1 ≠ 0 ∧ mi f u 3 = w0.2) ∧ (mi f u 4 ≠ -1 → w0.1 = 0 ∧ mi f u 4 = w0.2)) → (AG f (G.2 u 1) gb nb) → Met l yX12_goOnAnd w_X12_goOnAnd ({ frames := fr, cells := 0, slots := 0, locals := lo }) (py_Pc E [.ref u] L f sz) (py_Qv E L f sz (fun L1 f1 => (mi f u 3 ≤ mi f1 u 3 ∧ cdv f1 G u - cdv f G u ≤ mi f1 u 3 - mi f u 3) ∧ (mi f u 4 = -1 → mi f1 u 3 ≤ 167 - mi f u 5) ∧ (mi f u 4 ≠ -1 → mi f1 u 3 = mi f u 3 ∧ mi f1 u 4 ≠ -1) ∧ (mi f1 u 4 = -1 → mi f1 u 5 = mi f u 5 ∧ mi f1 u 3 ≤ mi f u 2) ∧ (TR f f1 G u (19 - 2 * wb) 1 1) ∧ (mi f1 u 4 = -1 → (rs_af (rs_un gb nb eb) 1 gb nb w0).1 ≠ 0 ∧ mi f1 u 3 = (rs_af (rs_un gb nb eb) 1 gb nb w0).2) ∧ (mi f1 u 4 ≠ -1 → (rs_af (rs_un gb nb eb) 1 gb nb w0).1 = 0 ∧ mi f1 u 4 = (rs_af (rs_un gb nb eb) 1 gb nb w0).2) ∧ WF E G L1 f1 ∧ KP G [41, 42, 43, 13] false f f1 ∧ FK [3, 4, 5] f f1 u)) 0 0 (va_A (va_pl L f) sz)
def Q_goOnOr (l : Launch) (E : py_E) (G : wf_G) (wb : Int) (fr lo : Nat) : Prop := ∀ (L : List Nat) (f : py_F) (sz : Nat) (u : Nat) (gb : rs_B) (nb : Int) (eb : Nat) (w0 : rs_R), WF E G L f → G.1 u = 13 → ((mi f u 4 = -1 → wb ≤ mi f u 5 ∧ mi f u 5 ≤ 6 ∧ mi f u 3 ≤ mi f u 2) ∧ 0 ≤ mi f u 3 ∧ cdv f G u ≤ mi f u 3) → (mi f u 2 = nb) → (mi f u 4 = -1 → mi f u 5 = 6 - ((eb : Nat) : Int)) → ((mi f u 4 = -1 → w0.1 ≠ 0 ∧ mi f u 3 = w0.2) ∧ (mi f u 4 ≠ -1 → w0.1 = 0 ∧ mi f u 4 = w0.2)) → (AG f (G.2 u 1) gb nb) → Met l yX12_goOnOr w_X12_goOnOr ({ frames := fr, cells := 0, slots := 0, locals := lo }) (py_Pc E [.ref u] L f sz) (py_Qv E L f sz (fun L1 f1 => (mi f u 3 ≤ mi f1 u 3 ∧ cdv f1 G u - cdv f G u ≤ mi f1 u 3 - mi f u 3) ∧ (mi f u 4 = -1 → mi f1 u 3 ≤ 167 - mi f u 5) ∧ (mi f u 4 ≠ -1 → mi f1 u 3 = mi f u 3 ∧ mi f1 u 4 ≠ -1) ∧ (mi f1 u 4 = -1 → mi f1 u 5 = mi f u 5 ∧ mi f1 u 3 ≤ mi f u 2) ∧ (TR f f1 G u (20 - 2 * wb) 1 1) ∧ (mi f1 u 4 = -1 → (rs_af (rs_tr gb nb eb) 0 gb nb w0).1 ≠ 0 ∧ mi f1 u 3 = (rs_af (rs_tr gb nb eb) 0 gb nb w0).2) ∧ (mi f1 u 4 ≠ -1 → (rs_af (rs_tr gb nb eb) 0 gb nb w0).1 = 0 ∧ mi f1 u 4 = (rs_af (rs_tr gb nb eb) 0 gb nb w0).2) ∧ WF E G L1 f1 ∧ KP G [41, 42, 43, 13] false f f1 ∧ FK [3, 4, 5] f f1 u)) 0 0 (va_A (va_pl L f) sz)
def Q_condition (l : Launch) (E : py_E) (G : wf_G) (wb : Int) (fr lo : Nat) : Prop := ∀ (L : List Nat) (f : py_F) (sz : Nat) (u : Nat) (gb : rs_B) (nb : Int) (pb : Int) (eb : Nat), WF E G L f → G.1 u = 13 → (mi f u 4 = -1 ∧ wb ≤ mi f u 5 ∧ mi f u 5 ≤ 6 ∧ 0 ≤ mi f u 3 ∧ mi f u 3 ≤ mi f u 2 ∧ cdv f G u ≤ mi f u 3) → (mi f u 2 = nb ∧ mi f u 3 = pb) → (mi f u 5 = 6 - ((eb : Nat) : Int)) → (AG f (G.2 u 1) gb nb) → Met l yX12_condition w_X12_condition ({ frames := fr, cells := 0, slots := 0, locals := lo }) (py_Pc E [.ref u] L f sz) (py_Qv E L f sz (fun L1 f1 => (mi f u 3 ≤ mi f1 u 3 ∧ cdv f1 G u - cdv f G u ≤ mi f1 u 3 - mi f u 3 ∧ mi f1 u 3 ≤ 167 - mi f u 5) ∧ (mi f1 u 4 = -1 → mi f1 u 5 = mi f u 5 ∧ mi f1 u 3 ≤ mi f u 2) ∧ (TR f f1 G u (20 - 2 * wb) 0 1) ∧ (mi f1 u 4 = -1 → (rs_cd gb nb eb pb).1 ≠ 0 ∧ mi f1 u 3 = (rs_cd gb nb eb pb).2) ∧ (mi f1 u 4 ≠ -1 → (rs_cd gb nb eb pb).1 = 0 ∧ mi f1 u 4 = (rs_cd gb nb eb pb).2) ∧ WF E G L1 f1 ∧ KP G [41, 42, 43, 13] false f f1 ∧ FK [3, 4, 5] f f1 u)) 0 0 (va_A (va_pl L f) sz)
