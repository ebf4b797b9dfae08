theorem fo_now {f f1 : py_F} {h v : Nat} {y : Int} (q : fo_v f h = v ∧ fo_y f h = y) (e : fo_v f1 h = fo_v f h ∧ fo_y f1 h = fo_y f h) : fo_v f1 h = v ∧ fo_y f1 h = y := ⟨e.1.trans q.1, e.2.trans q.2⟩
theorem dX2_copyFrom_0 : decode cX2_copyFrom 0 = .ok (.aload_n 0, 1) := by decide +kernel
theorem dX2_copyFrom_1 : decode cX2_copyFrom 1 = .ok (.aload_n 1, 1) := by decide +kernel
theorem dX2_copyFrom_2 : decode cX2_copyFrom 2 = .ok (.getfield 43, 3) := by decide +kernel
theorem dX2_copyFrom_5 : decode cX2_copyFrom 5 = .ok (.putfield 43, 3) := by decide +kernel
theorem dX2_copyFrom_8 : decode cX2_copyFrom 8 = .ok (.aload_n 0, 1) := by decide +kernel
theorem dX2_copyFrom_9 : decode cX2_copyFrom 9 = .ok (.aload_n 1, 1) := by decide +kernel
theorem dX2_copyFrom_10 : decode cX2_copyFrom 10 = .ok (.getfield 47, 3) := by decide +kernel
theorem dX2_copyFrom_13 : decode cX2_copyFrom 13 = .ok (.putfield 47, 3) := by decide +kernel
theorem dX2_copyFrom_16 : decode cX2_copyFrom 16 = .ok (.aload_n 0, 1) := by decide +kernel
theorem dX2_copyFrom_17 : decode cX2_copyFrom 17 = .ok (.aload_n 1, 1) := by decide +kernel
theorem dX2_copyFrom_18 : decode cX2_copyFrom 18 = .ok (.getfield 51, 3) := by decide +kernel
theorem dX2_copyFrom_21 : decode cX2_copyFrom 21 = .ok (.putfield 51, 3) := by decide +kernel
theorem dX2_copyFrom_24 : decode cX2_copyFrom 24 = .ok (.iconst 0, 1) := by decide +kernel
theorem dX2_copyFrom_25 : decode cX2_copyFrom 25 = .ok (.istore_n 2, 1) := by decide +kernel
theorem dX2_copyFrom_26 : decode cX2_copyFrom 26 = .ok (.iload_n 2, 1) := by decide +kernel
theorem dX2_copyFrom_27 : decode cX2_copyFrom 27 = .ok (.aload_n 0, 1) := by decide +kernel
theorem dX2_copyFrom_28 : decode cX2_copyFrom 28 = .ok (.getfield 43, 3) := by decide +kernel
theorem dX2_copyFrom_31 : decode cX2_copyFrom 31 = .ok (.getfield 55, 3) := by decide +kernel
theorem dX2_copyFrom_34 : decode cX2_copyFrom 34 = .ok (.if_icmp .ge 117, 3) := by decide +kernel
theorem dX2_copyFrom_37 : decode cX2_copyFrom 37 = .ok (.aload_n 0, 1) := by decide +kernel
theorem dX2_copyFrom_38 : decode cX2_copyFrom 38 = .ok (.getfield 11, 3) := by decide +kernel
theorem dX2_copyFrom_41 : decode cX2_copyFrom 41 = .ok (.iload_n 2, 1) := by decide +kernel
theorem dX2_copyFrom_42 : decode cX2_copyFrom 42 = .ok (.aload_n 1, 1) := by decide +kernel
theorem dX2_copyFrom_43 : decode cX2_copyFrom 43 = .ok (.getfield 11, 3) := by decide +kernel
theorem dX2_copyFrom_46 : decode cX2_copyFrom 46 = .ok (.iload_n 2, 1) := by decide +kernel
theorem dX2_copyFrom_47 : decode cX2_copyFrom 47 = .ok (.iaload, 1) := by decide +kernel
theorem dX2_copyFrom_48 : decode cX2_copyFrom 48 = .ok (.iastore, 1) := by decide +kernel
theorem dX2_copyFrom_49 : decode cX2_copyFrom 49 = .ok (.aload_n 0, 1) := by decide +kernel
theorem dX2_copyFrom_50 : decode cX2_copyFrom 50 = .ok (.getfield 17, 3) := by decide +kernel
theorem dX2_copyFrom_53 : decode cX2_copyFrom 53 = .ok (.iload_n 2, 1) := by decide +kernel
theorem dX2_copyFrom_54 : decode cX2_copyFrom 54 = .ok (.aload_n 1, 1) := by decide +kernel
theorem dX2_copyFrom_55 : decode cX2_copyFrom 55 = .ok (.getfield 17, 3) := by decide +kernel
theorem dX2_copyFrom_58 : decode cX2_copyFrom 58 = .ok (.iload_n 2, 1) := by decide +kernel
theorem dX2_copyFrom_59 : decode cX2_copyFrom 59 = .ok (.iaload, 1) := by decide +kernel
theorem dX2_copyFrom_60 : decode cX2_copyFrom 60 = .ok (.iastore, 1) := by decide +kernel
theorem dX2_copyFrom_61 : decode cX2_copyFrom 61 = .ok (.aload_n 0, 1) := by decide +kernel
theorem dX2_copyFrom_62 : decode cX2_copyFrom 62 = .ok (.getfield 20, 3) := by decide +kernel
theorem dX2_copyFrom_65 : decode cX2_copyFrom 65 = .ok (.iload_n 2, 1) := by decide +kernel
theorem dX2_copyFrom_66 : decode cX2_copyFrom 66 = .ok (.aload_n 1, 1) := by decide +kernel
theorem dX2_copyFrom_67 : decode cX2_copyFrom 67 = .ok (.getfield 20, 3) := by decide +kernel
theorem dX2_copyFrom_70 : decode cX2_copyFrom 70 = .ok (.iload_n 2, 1) := by decide +kernel
theorem dX2_copyFrom_71 : decode cX2_copyFrom 71 = .ok (.iaload, 1) := by decide +kernel
theorem dX2_copyFrom_72 : decode cX2_copyFrom 72 = .ok (.iastore, 1) := by decide +kernel
theorem dX2_copyFrom_73 : decode cX2_copyFrom 73 = .ok (.aload_n 0, 1) := by decide +kernel
theorem dX2_copyFrom_74 : decode cX2_copyFrom 74 = .ok (.getfield 23, 3) := by decide +kernel
theorem dX2_copyFrom_77 : decode cX2_copyFrom 77 = .ok (.iload_n 2, 1) := by decide +kernel
theorem dX2_copyFrom_78 : decode cX2_copyFrom 78 = .ok (.aload_n 1, 1) := by decide +kernel
theorem dX2_copyFrom_79 : decode cX2_copyFrom 79 = .ok (.getfield 23, 3) := by decide +kernel
theorem dX2_copyFrom_82 : decode cX2_copyFrom 82 = .ok (.iload_n 2, 1) := by decide +kernel
theorem dX2_copyFrom_83 : decode cX2_copyFrom 83 = .ok (.iaload, 1) := by decide +kernel
theorem dX2_copyFrom_84 : decode cX2_copyFrom 84 = .ok (.iastore, 1) := by decide +kernel
theorem dX2_copyFrom_85 : decode cX2_copyFrom 85 = .ok (.aload_n 0, 1) := by decide +kernel
theorem dX2_copyFrom_86 : decode cX2_copyFrom 86 = .ok (.getfield 26, 3) := by decide +kernel
theorem dX2_copyFrom_89 : decode cX2_copyFrom 89 = .ok (.iload_n 2, 1) := by decide +kernel
theorem dX2_copyFrom_90 : decode cX2_copyFrom 90 = .ok (.aload_n 1, 1) := by decide +kernel
theorem dX2_copyFrom_91 : decode cX2_copyFrom 91 = .ok (.getfield 26, 3) := by decide +kernel
theorem dX2_copyFrom_94 : decode cX2_copyFrom 94 = .ok (.iload_n 2, 1) := by decide +kernel
theorem dX2_copyFrom_95 : decode cX2_copyFrom 95 = .ok (.iaload, 1) := by decide +kernel
theorem dX2_copyFrom_96 : decode cX2_copyFrom 96 = .ok (.iastore, 1) := by decide +kernel
theorem dX2_copyFrom_97 : decode cX2_copyFrom 97 = .ok (.aload_n 0, 1) := by decide +kernel
theorem dX2_copyFrom_98 : decode cX2_copyFrom 98 = .ok (.getfield 29, 3) := by decide +kernel
theorem dX2_copyFrom_101 : decode cX2_copyFrom 101 = .ok (.iload_n 2, 1) := by decide +kernel
theorem dX2_copyFrom_102 : decode cX2_copyFrom 102 = .ok (.aload_n 1, 1) := by decide +kernel
theorem dX2_copyFrom_103 : decode cX2_copyFrom 103 = .ok (.getfield 29, 3) := by decide +kernel
theorem dX2_copyFrom_106 : decode cX2_copyFrom 106 = .ok (.iload_n 2, 1) := by decide +kernel
theorem dX2_copyFrom_107 : decode cX2_copyFrom 107 = .ok (.iaload, 1) := by decide +kernel
theorem dX2_copyFrom_108 : decode cX2_copyFrom 108 = .ok (.iastore, 1) := by decide +kernel
theorem dX2_copyFrom_109 : decode cX2_copyFrom 109 = .ok (.aload_n 0, 1) := by decide +kernel
theorem dX2_copyFrom_110 : decode cX2_copyFrom 110 = .ok (.getfield 32, 3) := by decide +kernel
theorem dX2_copyFrom_113 : decode cX2_copyFrom 113 = .ok (.iload_n 2, 1) := by decide +kernel
theorem dX2_copyFrom_114 : decode cX2_copyFrom 114 = .ok (.aload_n 1, 1) := by decide +kernel
theorem dX2_copyFrom_115 : decode cX2_copyFrom 115 = .ok (.getfield 32, 3) := by decide +kernel
theorem dX2_copyFrom_118 : decode cX2_copyFrom 118 = .ok (.iload_n 2, 1) := by decide +kernel
theorem dX2_copyFrom_119 : decode cX2_copyFrom 119 = .ok (.iaload, 1) := by decide +kernel
theorem dX2_copyFrom_120 : decode cX2_copyFrom 120 = .ok (.iastore, 1) := by decide +kernel
theorem dX2_copyFrom_121 : decode cX2_copyFrom 121 = .ok (.aload_n 0, 1) := by decide +kernel
theorem dX2_copyFrom_122 : decode cX2_copyFrom 122 = .ok (.getfield 35, 3) := by decide +kernel
theorem dX2_copyFrom_125 : decode cX2_copyFrom 125 = .ok (.iload_n 2, 1) := by decide +kernel
theorem dX2_copyFrom_126 : decode cX2_copyFrom 126 = .ok (.aload_n 1, 1) := by decide +kernel
theorem dX2_copyFrom_127 : decode cX2_copyFrom 127 = .ok (.getfield 35, 3) := by decide +kernel
theorem dX2_copyFrom_130 : decode cX2_copyFrom 130 = .ok (.iload_n 2, 1) := by decide +kernel
theorem dX2_copyFrom_131 : decode cX2_copyFrom 131 = .ok (.iaload, 1) := by decide +kernel
theorem dX2_copyFrom_132 : decode cX2_copyFrom 132 = .ok (.iastore, 1) := by decide +kernel
theorem dX2_copyFrom_133 : decode cX2_copyFrom 133 = .ok (.aload_n 0, 1) := by decide +kernel
theorem dX2_copyFrom_134 : decode cX2_copyFrom 134 = .ok (.getfield 38, 3) := by decide +kernel
theorem dX2_copyFrom_137 : decode cX2_copyFrom 137 = .ok (.iload_n 2, 1) := by decide +kernel
theorem dX2_copyFrom_138 : decode cX2_copyFrom 138 = .ok (.aload_n 1, 1) := by decide +kernel
theorem dX2_copyFrom_139 : decode cX2_copyFrom 139 = .ok (.getfield 38, 3) := by decide +kernel
theorem dX2_copyFrom_142 : decode cX2_copyFrom 142 = .ok (.iload_n 2, 1) := by decide +kernel
theorem dX2_copyFrom_143 : decode cX2_copyFrom 143 = .ok (.baload, 1) := by decide +kernel
theorem dX2_copyFrom_144 : decode cX2_copyFrom 144 = .ok (.bastore, 1) := by decide +kernel
theorem dX2_copyFrom_145 : decode cX2_copyFrom 145 = .ok (.iinc 2 1, 3) := by decide +kernel
theorem dX2_copyFrom_148 : decode cX2_copyFrom 148 = .ok (.goto (-122), 3) := by decide +kernel
theorem dX2_copyFrom_151 : decode cX2_copyFrom 151 = .ok (.return_, 1) := by decide +kernel
theorem dX2_settle_0 : decode cX2_settle 0 = .ok (.aload_n 0, 1) := by decide +kernel
theorem dX2_settle_1 : decode cX2_settle 1 = .ok (.aload_n 1, 1) := by decide +kernel
theorem dX2_settle_2 : decode cX2_settle 2 = .ok (.putfield 43, 3) := by decide +kernel
theorem dX2_settle_5 : decode cX2_settle 5 = .ok (.aload_n 0, 1) := by decide +kernel
theorem dX2_settle_6 : decode cX2_settle 6 = .ok (.iconst 0, 1) := by decide +kernel
theorem dX2_settle_7 : decode cX2_settle 7 = .ok (.putfield 51, 3) := by decide +kernel
theorem dX2_settle_10 : decode cX2_settle 10 = .ok (.iconst 0, 1) := by decide +kernel
theorem dX2_settle_11 : decode cX2_settle 11 = .ok (.istore_n 2, 1) := by decide +kernel
theorem dX2_settle_12 : decode cX2_settle 12 = .ok (.iload_n 2, 1) := by decide +kernel
theorem dX2_settle_13 : decode cX2_settle 13 = .ok (.aload_n 1, 1) := by decide +kernel
theorem dX2_settle_14 : decode cX2_settle 14 = .ok (.getfield 55, 3) := by decide +kernel
theorem dX2_settle_17 : decode cX2_settle 17 = .ok (.if_icmp .ge 35, 3) := by decide +kernel
theorem dX2_settle_20 : decode cX2_settle 20 = .ok (.aload_n 0, 1) := by decide +kernel
theorem dX2_settle_21 : decode cX2_settle 21 = .ok (.iload_n 2, 1) := by decide +kernel
theorem dX2_settle_22 : decode cX2_settle 22 = .ok (.invokevirtual 58, 3) := by decide +kernel
theorem dX2_settle_25 : decode cX2_settle 25 = .ok (.aload_n 0, 1) := by decide +kernel
theorem dX2_settle_26 : decode cX2_settle 26 = .ok (.getfield 26, 3) := by decide +kernel
theorem dX2_settle_29 : decode cX2_settle 29 = .ok (.iload_n 2, 1) := by decide +kernel
theorem dX2_settle_30 : decode cX2_settle 30 = .ok (.iconst 0, 1) := by decide +kernel
theorem dX2_settle_31 : decode cX2_settle 31 = .ok (.iastore, 1) := by decide +kernel
theorem dX2_settle_32 : decode cX2_settle 32 = .ok (.aload_n 0, 1) := by decide +kernel
theorem dX2_settle_33 : decode cX2_settle 33 = .ok (.getfield 29, 3) := by decide +kernel
theorem dX2_settle_36 : decode cX2_settle 36 = .ok (.iload_n 2, 1) := by decide +kernel
theorem dX2_settle_37 : decode cX2_settle 37 = .ok (.iconst 0, 1) := by decide +kernel
theorem dX2_settle_38 : decode cX2_settle 38 = .ok (.iastore, 1) := by decide +kernel
theorem dX2_settle_39 : decode cX2_settle 39 = .ok (.aload_n 0, 1) := by decide +kernel
theorem dX2_settle_40 : decode cX2_settle 40 = .ok (.getfield 35, 3) := by decide +kernel
theorem dX2_settle_43 : decode cX2_settle 43 = .ok (.iload_n 2, 1) := by decide +kernel
theorem dX2_settle_44 : decode cX2_settle 44 = .ok (.iconst 0, 1) := by decide +kernel
theorem dX2_settle_45 : decode cX2_settle 45 = .ok (.iastore, 1) := by decide +kernel
theorem dX2_settle_46 : decode cX2_settle 46 = .ok (.iinc 2 1, 3) := by decide +kernel
theorem dX2_settle_49 : decode cX2_settle 49 = .ok (.goto (-37), 3) := by decide +kernel
theorem dX2_settle_52 : decode cX2_settle 52 = .ok (.iconst 0, 1) := by decide +kernel
theorem dX2_settle_53 : decode cX2_settle 53 = .ok (.istore_n 2, 1) := by decide +kernel
theorem dX2_settle_54 : decode cX2_settle 54 = .ok (.iload_n 2, 1) := by decide +kernel
theorem dX2_settle_55 : decode cX2_settle 55 = .ok (.aload_n 1, 1) := by decide +kernel
theorem dX2_settle_56 : decode cX2_settle 56 = .ok (.getfield 55, 3) := by decide +kernel
theorem dX2_settle_59 : decode cX2_settle 59 = .ok (.if_icmp .ge 47, 3) := by decide +kernel
theorem dX2_settle_62 : decode cX2_settle 62 = .ok (.aload_n 1, 1) := by decide +kernel
theorem dX2_settle_63 : decode cX2_settle 63 = .ok (.getfield 62, 3) := by decide +kernel
theorem dX2_settle_66 : decode cX2_settle 66 = .ok (.iload_n 2, 1) := by decide +kernel
theorem dX2_settle_67 : decode cX2_settle 67 = .ok (.iaload, 1) := by decide +kernel
theorem dX2_settle_68 : decode cX2_settle 68 = .ok (.istore_n 3, 1) := by decide +kernel
theorem dX2_settle_69 : decode cX2_settle 69 = .ok (.aload_n 0, 1) := by decide +kernel
theorem dX2_settle_70 : decode cX2_settle 70 = .ok (.getfield 11, 3) := by decide +kernel
theorem dX2_settle_73 : decode cX2_settle 73 = .ok (.iload_n 2, 1) := by decide +kernel
theorem dX2_settle_74 : decode cX2_settle 74 = .ok (.aload_n 1, 1) := by decide +kernel
theorem dX2_settle_75 : decode cX2_settle 75 = .ok (.getfield 65, 3) := by decide +kernel
theorem dX2_settle_78 : decode cX2_settle 78 = .ok (.iload_n 2, 1) := by decide +kernel
theorem dX2_settle_79 : decode cX2_settle 79 = .ok (.iaload, 1) := by decide +kernel
theorem dX2_settle_80 : decode cX2_settle 80 = .ok (.iastore, 1) := by decide +kernel
theorem dX2_settle_81 : decode cX2_settle 81 = .ok (.aload_n 0, 1) := by decide +kernel
theorem dX2_settle_82 : decode cX2_settle 82 = .ok (.getfield 20, 3) := by decide +kernel
theorem dX2_settle_85 : decode cX2_settle 85 = .ok (.iload_n 2, 1) := by decide +kernel
theorem dX2_settle_86 : decode cX2_settle 86 = .ok (.aload_n 0, 1) := by decide +kernel
theorem dX2_settle_87 : decode cX2_settle 87 = .ok (.iload_n 3, 1) := by decide +kernel
theorem dX2_settle_88 : decode cX2_settle 88 = .ok (.iconst 0, 1) := by decide +kernel
theorem dX2_settle_89 : decode cX2_settle 89 = .ok (.invokevirtual 68, 3) := by decide +kernel
theorem dX2_settle_92 : decode cX2_settle 92 = .ok (.iastore, 1) := by decide +kernel
theorem dX2_settle_93 : decode cX2_settle 93 = .ok (.aload_n 0, 1) := by decide +kernel
theorem dX2_settle_94 : decode cX2_settle 94 = .ok (.getfield 17, 3) := by decide +kernel
theorem dX2_settle_97 : decode cX2_settle 97 = .ok (.iload_n 2, 1) := by decide +kernel
theorem dX2_settle_98 : decode cX2_settle 98 = .ok (.iload_n 3, 1) := by decide +kernel
theorem dX2_settle_99 : decode cX2_settle 99 = .ok (.iastore, 1) := by decide +kernel
theorem dX2_settle_100 : decode cX2_settle 100 = .ok (.iinc 2 1, 3) := by decide +kernel
theorem dX2_settle_103 : decode cX2_settle 103 = .ok (.goto (-49), 3) := by decide +kernel
theorem dX2_settle_106 : decode cX2_settle 106 = .ok (.return_, 1) := by decide +kernel
theorem dX7_changeHuts_0 : decode cX7_changeHuts 0 = .ok (.iconst 0, 1) := by decide +kernel
theorem dX7_changeHuts_1 : decode cX7_changeHuts 1 = .ok (.istore_n 3, 1) := by decide +kernel
theorem dX7_changeHuts_2 : decode cX7_changeHuts 2 = .ok (.iload_n 2, 1) := by decide +kernel
theorem dX7_changeHuts_3 : decode cX7_changeHuts 3 = .ok (.istore 4, 2) := by decide +kernel
theorem dX7_changeHuts_5 : decode cX7_changeHuts 5 = .ok (.aload_n 0, 1) := by decide +kernel
theorem dX7_changeHuts_6 : decode cX7_changeHuts 6 = .ok (.getfield 22, 3) := by decide +kernel
theorem dX7_changeHuts_9 : decode cX7_changeHuts 9 = .ok (.iload_n 3, 1) := by decide +kernel
theorem dX7_changeHuts_10 : decode cX7_changeHuts 10 = .ok (.iload 4, 2) := by decide +kernel
theorem dX7_changeHuts_12 : decode cX7_changeHuts 12 = .ok (.iastore, 1) := by decide +kernel
theorem dX7_changeHuts_13 : decode cX7_changeHuts 13 = .ok (.iinc 3 1, 3) := by decide +kernel
theorem dX7_changeHuts_16 : decode cX7_changeHuts 16 = .ok (.aload_n 1, 1) := by decide +kernel
theorem dX7_changeHuts_17 : decode cX7_changeHuts 17 = .ok (.iload 4, 2) := by decide +kernel
theorem dX7_changeHuts_19 : decode cX7_changeHuts 19 = .ok (.invokestatic 149, 3) := by decide +kernel
theorem dX7_changeHuts_22 : decode cX7_changeHuts 22 = .ok (.istore 4, 2) := by decide +kernel
theorem dX7_changeHuts_24 : decode cX7_changeHuts 24 = .ok (.iload_n 3, 1) := by decide +kernel
theorem dX7_changeHuts_25 : decode cX7_changeHuts 25 = .ok (.aload_n 0, 1) := by decide +kernel
theorem dX7_changeHuts_26 : decode cX7_changeHuts 26 = .ok (.getfield 22, 3) := by decide +kernel
theorem dX7_changeHuts_29 : decode cX7_changeHuts 29 = .ok (.arraylength, 1) := by decide +kernel
theorem dX7_changeHuts_30 : decode cX7_changeHuts 30 = .ok (.if_icmp .ge 15, 3) := by decide +kernel
theorem dX7_changeHuts_33 : decode cX7_changeHuts 33 = .ok (.iload 4, 2) := by decide +kernel
theorem dX7_changeHuts_35 : decode cX7_changeHuts 35 = .ok (.iload_n 2, 1) := by decide +kernel
theorem dX7_changeHuts_36 : decode cX7_changeHuts 36 = .ok (.if_icmp .eq 9, 3) := by decide +kernel
theorem dX7_changeHuts_39 : decode cX7_changeHuts 39 = .ok (.iload 4, 2) := by decide +kernel
theorem dX7_changeHuts_41 : decode cX7_changeHuts 41 = .ok (.iconst (-1), 1) := by decide +kernel
theorem dX7_changeHuts_42 : decode cX7_changeHuts 42 = .ok (.if_icmp .ne (-37), 3) := by decide +kernel
theorem dX7_changeHuts_45 : decode cX7_changeHuts 45 = .ok (.aload_n 1, 1) := by decide +kernel
theorem dX7_changeHuts_46 : decode cX7_changeHuts 46 = .ok (.getfield 86, 3) := by decide +kernel
theorem dX7_changeHuts_49 : decode cX7_changeHuts 49 = .ok (.iload_n 2, 1) := by decide +kernel
theorem dX7_changeHuts_50 : decode cX7_changeHuts 50 = .ok (.iaload, 1) := by decide +kernel
theorem dX7_changeHuts_51 : decode cX7_changeHuts 51 = .ok (.istore 5, 2) := by decide +kernel
theorem dX7_changeHuts_53 : decode cX7_changeHuts 53 = .ok (.aload_n 1, 1) := by decide +kernel
theorem dX7_changeHuts_54 : decode cX7_changeHuts 54 = .ok (.getfield 152, 3) := by decide +kernel
theorem dX7_changeHuts_57 : decode cX7_changeHuts 57 = .ok (.iload_n 2, 1) := by decide +kernel
theorem dX7_changeHuts_58 : decode cX7_changeHuts 58 = .ok (.iaload, 1) := by decide +kernel
theorem dX7_changeHuts_59 : decode cX7_changeHuts 59 = .ok (.istore 6, 2) := by decide +kernel
theorem dX7_changeHuts_61 : decode cX7_changeHuts 61 = .ok (.iconst 0, 1) := by decide +kernel
theorem dX7_changeHuts_62 : decode cX7_changeHuts 62 = .ok (.istore 7, 2) := by decide +kernel
theorem dX7_changeHuts_64 : decode cX7_changeHuts 64 = .ok (.iload 7, 2) := by decide +kernel
theorem dX7_changeHuts_66 : decode cX7_changeHuts 66 = .ok (.iconst 1, 1) := by decide +kernel
theorem dX7_changeHuts_67 : decode cX7_changeHuts 67 = .ok (.iadd, 1) := by decide +kernel
theorem dX7_changeHuts_68 : decode cX7_changeHuts 68 = .ok (.iload_n 3, 1) := by decide +kernel
theorem dX7_changeHuts_69 : decode cX7_changeHuts 69 = .ok (.if_icmp .ge 48, 3) := by decide +kernel
theorem dX7_changeHuts_72 : decode cX7_changeHuts 72 = .ok (.aload_n 1, 1) := by decide +kernel
theorem dX7_changeHuts_73 : decode cX7_changeHuts 73 = .ok (.aload_n 0, 1) := by decide +kernel
theorem dX7_changeHuts_74 : decode cX7_changeHuts 74 = .ok (.getfield 22, 3) := by decide +kernel
theorem dX7_changeHuts_77 : decode cX7_changeHuts 77 = .ok (.iload 7, 2) := by decide +kernel
theorem dX7_changeHuts_79 : decode cX7_changeHuts 79 = .ok (.iaload, 1) := by decide +kernel
theorem dX7_changeHuts_80 : decode cX7_changeHuts 80 = .ok (.aload_n 1, 1) := by decide +kernel
theorem dX7_changeHuts_81 : decode cX7_changeHuts 81 = .ok (.getfield 86, 3) := by decide +kernel
theorem dX7_changeHuts_84 : decode cX7_changeHuts 84 = .ok (.aload_n 0, 1) := by decide +kernel
theorem dX7_changeHuts_85 : decode cX7_changeHuts 85 = .ok (.getfield 22, 3) := by decide +kernel
theorem dX7_changeHuts_88 : decode cX7_changeHuts 88 = .ok (.iload 7, 2) := by decide +kernel
theorem dX7_changeHuts_90 : decode cX7_changeHuts 90 = .ok (.iconst 1, 1) := by decide +kernel
theorem dX7_changeHuts_91 : decode cX7_changeHuts 91 = .ok (.iadd, 1) := by decide +kernel
theorem dX7_changeHuts_92 : decode cX7_changeHuts 92 = .ok (.iaload, 1) := by decide +kernel
theorem dX7_changeHuts_93 : decode cX7_changeHuts 93 = .ok (.iaload, 1) := by decide +kernel
theorem dX7_changeHuts_94 : decode cX7_changeHuts 94 = .ok (.aload_n 1, 1) := by decide +kernel
theorem dX7_changeHuts_95 : decode cX7_changeHuts 95 = .ok (.getfield 152, 3) := by decide +kernel
theorem dX7_changeHuts_98 : decode cX7_changeHuts 98 = .ok (.aload_n 0, 1) := by decide +kernel
theorem dX7_changeHuts_99 : decode cX7_changeHuts 99 = .ok (.getfield 22, 3) := by decide +kernel
theorem dX7_changeHuts_102 : decode cX7_changeHuts 102 = .ok (.iload 7, 2) := by decide +kernel
theorem dX7_changeHuts_104 : decode cX7_changeHuts 104 = .ok (.iconst 1, 1) := by decide +kernel
theorem dX7_changeHuts_105 : decode cX7_changeHuts 105 = .ok (.iadd, 1) := by decide +kernel
theorem dX7_changeHuts_106 : decode cX7_changeHuts 106 = .ok (.iaload, 1) := by decide +kernel
theorem dX7_changeHuts_107 : decode cX7_changeHuts 107 = .ok (.iaload, 1) := by decide +kernel
theorem dX7_changeHuts_108 : decode cX7_changeHuts 108 = .ok (.invokevirtual 139, 3) := by decide +kernel
theorem dX7_changeHuts_111 : decode cX7_changeHuts 111 = .ok (.iinc 7 1, 3) := by decide +kernel
theorem dX7_changeHuts_114 : decode cX7_changeHuts 114 = .ok (.goto (-50), 3) := by decide +kernel
theorem dX7_changeHuts_117 : decode cX7_changeHuts 117 = .ok (.aload_n 1, 1) := by decide +kernel
theorem dX7_changeHuts_118 : decode cX7_changeHuts 118 = .ok (.aload_n 0, 1) := by decide +kernel
theorem dX7_changeHuts_119 : decode cX7_changeHuts 119 = .ok (.getfield 22, 3) := by decide +kernel
theorem dX7_changeHuts_122 : decode cX7_changeHuts 122 = .ok (.iload_n 3, 1) := by decide +kernel
theorem dX7_changeHuts_123 : decode cX7_changeHuts 123 = .ok (.iconst 1, 1) := by decide +kernel
theorem dX7_changeHuts_124 : decode cX7_changeHuts 124 = .ok (.isub, 1) := by decide +kernel
theorem dX7_changeHuts_125 : decode cX7_changeHuts 125 = .ok (.iaload, 1) := by decide +kernel
theorem dX7_changeHuts_126 : decode cX7_changeHuts 126 = .ok (.iload 5, 2) := by decide +kernel
theorem dX7_changeHuts_128 : decode cX7_changeHuts 128 = .ok (.iload 6, 2) := by decide +kernel
theorem dX7_changeHuts_130 : decode cX7_changeHuts 130 = .ok (.invokevirtual 139, 3) := by decide +kernel
theorem dX7_changeHuts_133 : decode cX7_changeHuts 133 = .ok (.iload_n 3, 1) := by decide +kernel
theorem dX7_changeHuts_134 : decode cX7_changeHuts 134 = .ok (.ireturn, 1) := by decide +kernel
theorem dX7_changeRing_0 : decode cX7_changeRing 0 = .ok (.iconst 0, 1) := by decide +kernel
theorem dX7_changeRing_1 : decode cX7_changeRing 1 = .ok (.istore_n 2, 1) := by decide +kernel
theorem dX7_changeRing_2 : decode cX7_changeRing 2 = .ok (.iload_n 2, 1) := by decide +kernel
theorem dX7_changeRing_3 : decode cX7_changeRing 3 = .ok (.aload_n 1, 1) := by decide +kernel
theorem dX7_changeRing_4 : decode cX7_changeRing 4 = .ok (.getfield 33, 3) := by decide +kernel
theorem dX7_changeRing_7 : decode cX7_changeRing 7 = .ok (.getfield 46, 3) := by decide +kernel
theorem dX7_changeRing_10 : decode cX7_changeRing 10 = .ok (.if_icmp .ge 40, 3) := by decide +kernel
theorem dX7_changeRing_13 : decode cX7_changeRing 13 = .ok (.aload_n 1, 1) := by decide +kernel
theorem dX7_changeRing_14 : decode cX7_changeRing 14 = .ok (.getfield 89, 3) := by decide +kernel
theorem dX7_changeRing_17 : decode cX7_changeRing 17 = .ok (.iload_n 2, 1) := by decide +kernel
theorem dX7_changeRing_18 : decode cX7_changeRing 18 = .ok (.iaload, 1) := by decide +kernel
theorem dX7_changeRing_19 : decode cX7_changeRing 19 = .ok (.ifCond .ne 7, 3) := by decide +kernel
theorem dX7_changeRing_22 : decode cX7_changeRing 22 = .ok (.iconst (-1), 1) := by decide +kernel
theorem dX7_changeRing_23 : decode cX7_changeRing 23 = .ok (.goto 8, 3) := by decide +kernel
theorem dX7_changeRing_26 : decode cX7_changeRing 26 = .ok (.aload_n 1, 1) := by decide +kernel
theorem dX7_changeRing_27 : decode cX7_changeRing 27 = .ok (.iload_n 2, 1) := by decide +kernel
theorem dX7_changeRing_28 : decode cX7_changeRing 28 = .ok (.invokestatic 143, 3) := by decide +kernel
theorem dX7_changeRing_31 : decode cX7_changeRing 31 = .ok (.istore_n 3, 1) := by decide +kernel
theorem dX7_changeRing_32 : decode cX7_changeRing 32 = .ok (.iload_n 3, 1) := by decide +kernel
theorem dX7_changeRing_33 : decode cX7_changeRing 33 = .ok (.iconst (-1), 1) := by decide +kernel
theorem dX7_changeRing_34 : decode cX7_changeRing 34 = .ok (.if_icmp .eq 10, 3) := by decide +kernel
theorem dX7_changeRing_37 : decode cX7_changeRing 37 = .ok (.aload_n 0, 1) := by decide +kernel
theorem dX7_changeRing_38 : decode cX7_changeRing 38 = .ok (.aload_n 1, 1) := by decide +kernel
theorem dX7_changeRing_39 : decode cX7_changeRing 39 = .ok (.iload_n 3, 1) := by decide +kernel
theorem dX7_changeRing_40 : decode cX7_changeRing 40 = .ok (.invokevirtual 146, 3) := by decide +kernel
theorem dX7_changeRing_43 : decode cX7_changeRing 43 = .ok (.ireturn, 1) := by decide +kernel
theorem dX7_changeRing_44 : decode cX7_changeRing 44 = .ok (.iinc 2 1, 3) := by decide +kernel
theorem dX7_changeRing_47 : decode cX7_changeRing 47 = .ok (.goto (-45), 3) := by decide +kernel
theorem dX7_changeRing_50 : decode cX7_changeRing 50 = .ok (.iconst 0, 1) := by decide +kernel
theorem dX7_changeRing_51 : decode cX7_changeRing 51 = .ok (.ireturn, 1) := by decide +kernel
theorem dX7_drawDead_0 : decode cX7_drawDead 0 = .ok (.aload_n 1, 1) := by decide +kernel
theorem dX7_drawDead_1 : decode cX7_drawDead 1 = .ok (.getfield 86, 3) := by decide +kernel
theorem dX7_drawDead_4 : decode cX7_drawDead 4 = .ok (.iload_n 2, 1) := by decide +kernel
theorem dX7_drawDead_5 : decode cX7_drawDead 5 = .ok (.iaload, 1) := by decide +kernel
theorem dX7_drawDead_6 : decode cX7_drawDead 6 = .ok (.istore_n 3, 1) := by decide +kernel
theorem dX7_drawDead_7 : decode cX7_drawDead 7 = .ok (.aload_n 1, 1) := by decide +kernel
theorem dX7_drawDead_8 : decode cX7_drawDead 8 = .ok (.getfield 33, 3) := by decide +kernel
theorem dX7_drawDead_11 : decode cX7_drawDead 11 = .ok (.getfield 109, 3) := by decide +kernel
theorem dX7_drawDead_14 : decode cX7_drawDead 14 = .ok (.iload_n 3, 1) := by decide +kernel
theorem dX7_drawDead_15 : decode cX7_drawDead 15 = .ok (.iaload, 1) := by decide +kernel
theorem dX7_drawDead_16 : decode cX7_drawDead 16 = .ok (.aload_n 0, 1) := by decide +kernel
theorem dX7_drawDead_17 : decode cX7_drawDead 17 = .ok (.getfield 11, 3) := by decide +kernel
theorem dX7_drawDead_20 : decode cX7_drawDead 20 = .ok (.iload_n 3, 1) := by decide +kernel
theorem dX7_drawDead_21 : decode cX7_drawDead 21 = .ok (.iaload, 1) := by decide +kernel
theorem dX7_drawDead_22 : decode cX7_drawDead 22 = .ok (.iadd, 1) := by decide +kernel
theorem dX7_drawDead_23 : decode cX7_drawDead 23 = .ok (.istore 4, 2) := by decide +kernel
theorem dX7_drawDead_25 : decode cX7_drawDead 25 = .ok (.iconst 0, 1) := by decide +kernel
theorem dX7_drawDead_26 : decode cX7_drawDead 26 = .ok (.istore 5, 2) := by decide +kernel
theorem dX7_drawDead_28 : decode cX7_drawDead 28 = .ok (.iconst 0, 1) := by decide +kernel
theorem dX7_drawDead_29 : decode cX7_drawDead 29 = .ok (.istore 6, 2) := by decide +kernel
theorem dX7_drawDead_31 : decode cX7_drawDead 31 = .ok (.iload 6, 2) := by decide +kernel
theorem dX7_drawDead_33 : decode cX7_drawDead 33 = .ok (.aload_n 1, 1) := by decide +kernel
theorem dX7_drawDead_34 : decode cX7_drawDead 34 = .ok (.getfield 49, 3) := by decide +kernel
theorem dX7_drawDead_37 : decode cX7_drawDead 37 = .ok (.iload_n 2, 1) := by decide +kernel
theorem dX7_drawDead_38 : decode cX7_drawDead 38 = .ok (.iaload, 1) := by decide +kernel
theorem dX7_drawDead_39 : decode cX7_drawDead 39 = .ok (.if_icmp .ge 30, 3) := by decide +kernel
theorem dX7_drawDead_42 : decode cX7_drawDead 42 = .ok (.iload 5, 2) := by decide +kernel
theorem dX7_drawDead_44 : decode cX7_drawDead 44 = .ok (.aload_n 1, 1) := by decide +kernel
theorem dX7_drawDead_45 : decode cX7_drawDead 45 = .ok (.bipush 100, 2) := by decide +kernel
theorem dX7_drawDead_47 : decode cX7_drawDead 47 = .ok (.invokevirtual 100, 3) := by decide +kernel
theorem dX7_drawDead_50 : decode cX7_drawDead 50 = .ok (.iload 4, 2) := by decide +kernel
theorem dX7_drawDead_52 : decode cX7_drawDead 52 = .ok (.if_icmp .ge 7, 3) := by decide +kernel
theorem dX7_drawDead_55 : decode cX7_drawDead 55 = .ok (.iconst 1, 1) := by decide +kernel
theorem dX7_drawDead_56 : decode cX7_drawDead 56 = .ok (.goto 4, 3) := by decide +kernel
theorem dX7_drawDead_59 : decode cX7_drawDead 59 = .ok (.iconst 0, 1) := by decide +kernel
theorem dX7_drawDead_60 : decode cX7_drawDead 60 = .ok (.iadd, 1) := by decide +kernel
theorem dX7_drawDead_61 : decode cX7_drawDead 61 = .ok (.istore 5, 2) := by decide +kernel
theorem dX7_drawDead_63 : decode cX7_drawDead 63 = .ok (.iinc 6 1, 3) := by decide +kernel
theorem dX7_drawDead_66 : decode cX7_drawDead 66 = .ok (.goto (-35), 3) := by decide +kernel
theorem dX7_drawDead_69 : decode cX7_drawDead 69 = .ok (.iload 5, 2) := by decide +kernel
theorem dX7_drawDead_71 : decode cX7_drawDead 71 = .ok (.ireturn, 1) := by decide +kernel
theorem dX7_moveAll_0 : decode cX7_moveAll 0 = .ok (.aload_n 1, 1) := by decide +kernel
theorem dX7_moveAll_1 : decode cX7_moveAll 1 = .ok (.invokestatic 116, 3) := by decide +kernel
theorem dX7_moveAll_4 : decode cX7_moveAll 4 = .ok (.iconst 0, 1) := by decide +kernel
theorem dX7_moveAll_5 : decode cX7_moveAll 5 = .ok (.istore_n 2, 1) := by decide +kernel
theorem dX7_moveAll_6 : decode cX7_moveAll 6 = .ok (.iconst 0, 1) := by decide +kernel
theorem dX7_moveAll_7 : decode cX7_moveAll 7 = .ok (.istore_n 3, 1) := by decide +kernel
theorem dX7_moveAll_8 : decode cX7_moveAll 8 = .ok (.iload_n 3, 1) := by decide +kernel
theorem dX7_moveAll_9 : decode cX7_moveAll 9 = .ok (.bipush 10, 2) := by decide +kernel
theorem dX7_moveAll_11 : decode cX7_moveAll 11 = .ok (.if_icmp .ge 41, 3) := by decide +kernel
theorem dX7_moveAll_14 : decode cX7_moveAll 14 = .ok (.aload_n 0, 1) := by decide +kernel
theorem dX7_moveAll_15 : decode cX7_moveAll 15 = .ok (.aload_n 1, 1) := by decide +kernel
theorem dX7_moveAll_16 : decode cX7_moveAll 16 = .ok (.invokevirtual 120, 3) := by decide +kernel
theorem dX7_moveAll_19 : decode cX7_moveAll 19 = .ok (.istore 4, 2) := by decide +kernel
theorem dX7_moveAll_21 : decode cX7_moveAll 21 = .ok (.iload 4, 2) := by decide +kernel
theorem dX7_moveAll_23 : decode cX7_moveAll 23 = .ok (.ifCond .ne 10, 3) := by decide +kernel
theorem dX7_moveAll_26 : decode cX7_moveAll 26 = .ok (.aload_n 0, 1) := by decide +kernel
theorem dX7_moveAll_27 : decode cX7_moveAll 27 = .ok (.aload_n 1, 1) := by decide +kernel
theorem dX7_moveAll_28 : decode cX7_moveAll 28 = .ok (.invokevirtual 124, 3) := by decide +kernel
theorem dX7_moveAll_31 : decode cX7_moveAll 31 = .ok (.istore 4, 2) := by decide +kernel
theorem dX7_moveAll_33 : decode cX7_moveAll 33 = .ok (.iload 4, 2) := by decide +kernel
theorem dX7_moveAll_35 : decode cX7_moveAll 35 = .ok (.ifCond .ne 6, 3) := by decide +kernel
theorem dX7_moveAll_38 : decode cX7_moveAll 38 = .ok (.goto 14, 3) := by decide +kernel
theorem dX7_moveAll_41 : decode cX7_moveAll 41 = .ok (.iload_n 2, 1) := by decide +kernel
theorem dX7_moveAll_42 : decode cX7_moveAll 42 = .ok (.iload 4, 2) := by decide +kernel
theorem dX7_moveAll_44 : decode cX7_moveAll 44 = .ok (.iadd, 1) := by decide +kernel
theorem dX7_moveAll_45 : decode cX7_moveAll 45 = .ok (.istore_n 2, 1) := by decide +kernel
theorem dX7_moveAll_46 : decode cX7_moveAll 46 = .ok (.iinc 3 1, 3) := by decide +kernel
theorem dX7_moveAll_49 : decode cX7_moveAll 49 = .ok (.goto (-41), 3) := by decide +kernel
theorem dX7_moveAll_52 : decode cX7_moveAll 52 = .ok (.iload_n 2, 1) := by decide +kernel
theorem dX7_moveAll_53 : decode cX7_moveAll 53 = .ok (.ireturn, 1) := by decide +kernel
theorem dX7_moveIntoEmpty_0 : decode cX7_moveIntoEmpty 0 = .ok (.iconst 0, 1) := by decide +kernel
theorem dX7_moveIntoEmpty_1 : decode cX7_moveIntoEmpty 1 = .ok (.istore_n 2, 1) := by decide +kernel
theorem dX7_moveIntoEmpty_2 : decode cX7_moveIntoEmpty 2 = .ok (.iload_n 2, 1) := by decide +kernel
theorem dX7_moveIntoEmpty_3 : decode cX7_moveIntoEmpty 3 = .ok (.aload_n 1, 1) := by decide +kernel
theorem dX7_moveIntoEmpty_4 : decode cX7_moveIntoEmpty 4 = .ok (.getfield 33, 3) := by decide +kernel
theorem dX7_moveIntoEmpty_7 : decode cX7_moveIntoEmpty 7 = .ok (.getfield 46, 3) := by decide +kernel
theorem dX7_moveIntoEmpty_10 : decode cX7_moveIntoEmpty 10 = .ok (.if_icmp .ge 78, 3) := by decide +kernel
theorem dX7_moveIntoEmpty_13 : decode cX7_moveIntoEmpty 13 = .ok (.aload_n 1, 1) := by decide +kernel
theorem dX7_moveIntoEmpty_14 : decode cX7_moveIntoEmpty 14 = .ok (.getfield 86, 3) := by decide +kernel
theorem dX7_moveIntoEmpty_17 : decode cX7_moveIntoEmpty 17 = .ok (.iload_n 2, 1) := by decide +kernel
theorem dX7_moveIntoEmpty_18 : decode cX7_moveIntoEmpty 18 = .ok (.iaload, 1) := by decide +kernel
theorem dX7_moveIntoEmpty_19 : decode cX7_moveIntoEmpty 19 = .ok (.aload_n 1, 1) := by decide +kernel
theorem dX7_moveIntoEmpty_20 : decode cX7_moveIntoEmpty 20 = .ok (.getfield 89, 3) := by decide +kernel
theorem dX7_moveIntoEmpty_23 : decode cX7_moveIntoEmpty 23 = .ok (.iload_n 2, 1) := by decide +kernel
theorem dX7_moveIntoEmpty_24 : decode cX7_moveIntoEmpty 24 = .ok (.iaload, 1) := by decide +kernel
theorem dX7_moveIntoEmpty_25 : decode cX7_moveIntoEmpty 25 = .ok (.iadd, 1) := by decide +kernel
theorem dX7_moveIntoEmpty_26 : decode cX7_moveIntoEmpty 26 = .ok (.istore_n 3, 1) := by decide +kernel
theorem dX7_moveIntoEmpty_27 : decode cX7_moveIntoEmpty 27 = .ok (.aload_n 1, 1) := by decide +kernel
theorem dX7_moveIntoEmpty_28 : decode cX7_moveIntoEmpty 28 = .ok (.getfield 89, 3) := by decide +kernel
theorem dX7_moveIntoEmpty_31 : decode cX7_moveIntoEmpty 31 = .ok (.iload_n 2, 1) := by decide +kernel
theorem dX7_moveIntoEmpty_32 : decode cX7_moveIntoEmpty 32 = .ok (.iaload, 1) := by decide +kernel
theorem dX7_moveIntoEmpty_33 : decode cX7_moveIntoEmpty 33 = .ok (.ifCond .ne 7, 3) := by decide +kernel
theorem dX7_moveIntoEmpty_36 : decode cX7_moveIntoEmpty 36 = .ok (.iconst 0, 1) := by decide +kernel
theorem dX7_moveIntoEmpty_37 : decode cX7_moveIntoEmpty 37 = .ok (.goto 8, 3) := by decide +kernel
theorem dX7_moveIntoEmpty_40 : decode cX7_moveIntoEmpty 40 = .ok (.aload_n 1, 1) := by decide +kernel
theorem dX7_moveIntoEmpty_41 : decode cX7_moveIntoEmpty 41 = .ok (.iload_n 3, 1) := by decide +kernel
theorem dX7_moveIntoEmpty_42 : decode cX7_moveIntoEmpty 42 = .ok (.invokevirtual 133, 3) := by decide +kernel
theorem dX7_moveIntoEmpty_45 : decode cX7_moveIntoEmpty 45 = .ok (.istore 4, 2) := by decide +kernel
theorem dX7_moveIntoEmpty_47 : decode cX7_moveIntoEmpty 47 = .ok (.iload 4, 2) := by decide +kernel
theorem dX7_moveIntoEmpty_49 : decode cX7_moveIntoEmpty 49 = .ok (.ifCond .le 33, 3) := by decide +kernel
theorem dX7_moveIntoEmpty_52 : decode cX7_moveIntoEmpty 52 = .ok (.aload_n 1, 1) := by decide +kernel
theorem dX7_moveIntoEmpty_53 : decode cX7_moveIntoEmpty 53 = .ok (.iload_n 2, 1) := by decide +kernel
theorem dX7_moveIntoEmpty_54 : decode cX7_moveIntoEmpty 54 = .ok (.iload_n 3, 1) := by decide +kernel
theorem dX7_moveIntoEmpty_55 : decode cX7_moveIntoEmpty 55 = .ok (.aload_n 1, 1) := by decide +kernel
theorem dX7_moveIntoEmpty_56 : decode cX7_moveIntoEmpty 56 = .ok (.iload_n 3, 1) := by decide +kernel
theorem dX7_moveIntoEmpty_57 : decode cX7_moveIntoEmpty 57 = .ok (.aload_n 0, 1) := by decide +kernel
theorem dX7_moveIntoEmpty_58 : decode cX7_moveIntoEmpty 58 = .ok (.getfield 29, 3) := by decide +kernel
theorem dX7_moveIntoEmpty_61 : decode cX7_moveIntoEmpty 61 = .ok (.ifCond .eq 12, 3) := by decide +kernel
theorem dX7_moveIntoEmpty_64 : decode cX7_moveIntoEmpty 64 = .ok (.aload_n 1, 1) := by decide +kernel
theorem dX7_moveIntoEmpty_65 : decode cX7_moveIntoEmpty 65 = .ok (.iload 4, 2) := by decide +kernel
theorem dX7_moveIntoEmpty_67 : decode cX7_moveIntoEmpty 67 = .ok (.invokevirtual 100, 3) := by decide +kernel
theorem dX7_moveIntoEmpty_70 : decode cX7_moveIntoEmpty 70 = .ok (.goto 4, 3) := by decide +kernel
theorem dX7_moveIntoEmpty_73 : decode cX7_moveIntoEmpty 73 = .ok (.iconst 0, 1) := by decide +kernel
theorem dX7_moveIntoEmpty_74 : decode cX7_moveIntoEmpty 74 = .ok (.invokevirtual 136, 3) := by decide +kernel
theorem dX7_moveIntoEmpty_77 : decode cX7_moveIntoEmpty 77 = .ok (.invokevirtual 139, 3) := by decide +kernel
theorem dX7_moveIntoEmpty_80 : decode cX7_moveIntoEmpty 80 = .ok (.iconst 1, 1) := by decide +kernel
theorem dX7_moveIntoEmpty_81 : decode cX7_moveIntoEmpty 81 = .ok (.ireturn, 1) := by decide +kernel
theorem dX7_moveIntoEmpty_82 : decode cX7_moveIntoEmpty 82 = .ok (.iinc 2 1, 3) := by decide +kernel
theorem dX7_moveIntoEmpty_85 : decode cX7_moveIntoEmpty 85 = .ok (.goto (-83), 3) := by decide +kernel
theorem dX7_moveIntoEmpty_88 : decode cX7_moveIntoEmpty 88 = .ok (.iconst 0, 1) := by decide +kernel
theorem dX7_moveIntoEmpty_89 : decode cX7_moveIntoEmpty 89 = .ok (.ireturn, 1) := by decide +kernel
theorem dX7_settleDebts_0 : decode cX7_settleDebts 0 = .ok (.iconst 0, 1) := by decide +kernel
theorem dX7_settleDebts_1 : decode cX7_settleDebts 1 = .ok (.istore_n 1, 1) := by decide +kernel
theorem dX7_settleDebts_2 : decode cX7_settleDebts 2 = .ok (.iload_n 1, 1) := by decide +kernel
theorem dX7_settleDebts_3 : decode cX7_settleDebts 3 = .ok (.aload_n 0, 1) := by decide +kernel
theorem dX7_settleDebts_4 : decode cX7_settleDebts 4 = .ok (.getfield 33, 3) := by decide +kernel
theorem dX7_settleDebts_7 : decode cX7_settleDebts 7 = .ok (.getfield 46, 3) := by decide +kernel
theorem dX7_settleDebts_10 : decode cX7_settleDebts 10 = .ok (.if_icmp .ge 49, 3) := by decide +kernel
theorem dX7_settleDebts_13 : decode cX7_settleDebts 13 = .ok (.aload_n 0, 1) := by decide +kernel
theorem dX7_settleDebts_14 : decode cX7_settleDebts 14 = .ok (.getfield 89, 3) := by decide +kernel
theorem dX7_settleDebts_17 : decode cX7_settleDebts 17 = .ok (.iload_n 1, 1) := by decide +kernel
theorem dX7_settleDebts_18 : decode cX7_settleDebts 18 = .ok (.dup2, 1) := by decide +kernel
theorem dX7_settleDebts_19 : decode cX7_settleDebts 19 = .ok (.iaload, 1) := by decide +kernel
theorem dX7_settleDebts_20 : decode cX7_settleDebts 20 = .ok (.aload_n 0, 1) := by decide +kernel
theorem dX7_settleDebts_21 : decode cX7_settleDebts 21 = .ok (.getfield 127, 3) := by decide +kernel
theorem dX7_settleDebts_24 : decode cX7_settleDebts 24 = .ok (.iload_n 1, 1) := by decide +kernel
theorem dX7_settleDebts_25 : decode cX7_settleDebts 25 = .ok (.iaload, 1) := by decide +kernel
theorem dX7_settleDebts_26 : decode cX7_settleDebts 26 = .ok (.iadd, 1) := by decide +kernel
theorem dX7_settleDebts_27 : decode cX7_settleDebts 27 = .ok (.iastore, 1) := by decide +kernel
theorem dX7_settleDebts_28 : decode cX7_settleDebts 28 = .ok (.aload_n 0, 1) := by decide +kernel
theorem dX7_settleDebts_29 : decode cX7_settleDebts 29 = .ok (.getfield 127, 3) := by decide +kernel
theorem dX7_settleDebts_32 : decode cX7_settleDebts 32 = .ok (.iload_n 1, 1) := by decide +kernel
theorem dX7_settleDebts_33 : decode cX7_settleDebts 33 = .ok (.iconst 0, 1) := by decide +kernel
theorem dX7_settleDebts_34 : decode cX7_settleDebts 34 = .ok (.iastore, 1) := by decide +kernel
theorem dX7_settleDebts_35 : decode cX7_settleDebts 35 = .ok (.aload_n 0, 1) := by decide +kernel
theorem dX7_settleDebts_36 : decode cX7_settleDebts 36 = .ok (.getfield 89, 3) := by decide +kernel
theorem dX7_settleDebts_39 : decode cX7_settleDebts 39 = .ok (.iload_n 1, 1) := by decide +kernel
theorem dX7_settleDebts_40 : decode cX7_settleDebts 40 = .ok (.aload_n 0, 1) := by decide +kernel
theorem dX7_settleDebts_41 : decode cX7_settleDebts 41 = .ok (.iload_n 1, 1) := by decide +kernel
theorem dX7_settleDebts_42 : decode cX7_settleDebts 42 = .ok (.invokevirtual 130, 3) := by decide +kernel
theorem dX7_settleDebts_45 : decode cX7_settleDebts 45 = .ok (.aload_n 0, 1) := by decide +kernel
theorem dX7_settleDebts_46 : decode cX7_settleDebts 46 = .ok (.getfield 86, 3) := by decide +kernel
theorem dX7_settleDebts_49 : decode cX7_settleDebts 49 = .ok (.iload_n 1, 1) := by decide +kernel
theorem dX7_settleDebts_50 : decode cX7_settleDebts 50 = .ok (.iaload, 1) := by decide +kernel
theorem dX7_settleDebts_51 : decode cX7_settleDebts 51 = .ok (.isub, 1) := by decide +kernel
theorem dX7_settleDebts_52 : decode cX7_settleDebts 52 = .ok (.iastore, 1) := by decide +kernel
theorem dX7_settleDebts_53 : decode cX7_settleDebts 53 = .ok (.iinc 1 1, 3) := by decide +kernel
theorem dX7_settleDebts_56 : decode cX7_settleDebts 56 = .ok (.goto (-54), 3) := by decide +kernel
theorem dX7_settleDebts_59 : decode cX7_settleDebts 59 = .ok (.return_, 1) := by decide +kernel
theorem dX7_winter_0 : decode cX7_winter 0 = .ok (.aload_n 1, 1) := by decide +kernel
theorem dX7_winter_1 : decode cX7_winter 1 = .ok (.getfield 33, 3) := by decide +kernel
theorem dX7_winter_4 : decode cX7_winter 4 = .ok (.astore_n 3, 1) := by decide +kernel
theorem dX7_winter_5 : decode cX7_winter 5 = .ok (.iconst 0, 1) := by decide +kernel
theorem dX7_winter_6 : decode cX7_winter 6 = .ok (.istore 4, 2) := by decide +kernel
theorem dX7_winter_8 : decode cX7_winter 8 = .ok (.iload 4, 2) := by decide +kernel
theorem dX7_winter_10 : decode cX7_winter 10 = .ok (.aload_n 3, 1) := by decide +kernel
theorem dX7_winter_11 : decode cX7_winter 11 = .ok (.getfield 39, 3) := by decide +kernel
theorem dX7_winter_14 : decode cX7_winter 14 = .ok (.if_icmp .ge 22, 3) := by decide +kernel
theorem dX7_winter_17 : decode cX7_winter 17 = .ok (.aload_n 0, 1) := by decide +kernel
theorem dX7_winter_18 : decode cX7_winter 18 = .ok (.getfield 11, 3) := by decide +kernel
theorem dX7_winter_21 : decode cX7_winter 21 = .ok (.iload 4, 2) := by decide +kernel
theorem dX7_winter_23 : decode cX7_winter 23 = .ok (.aload_n 1, 1) := by decide +kernel
theorem dX7_winter_24 : decode cX7_winter 24 = .ok (.iload 4, 2) := by decide +kernel
theorem dX7_winter_26 : decode cX7_winter 26 = .ok (.invokevirtual 42, 3) := by decide +kernel
theorem dX7_winter_29 : decode cX7_winter 29 = .ok (.iastore, 1) := by decide +kernel
theorem dX7_winter_30 : decode cX7_winter 30 = .ok (.iinc 4 1, 3) := by decide +kernel
theorem dX7_winter_33 : decode cX7_winter 33 = .ok (.goto (-25), 3) := by decide +kernel
theorem dX7_winter_36 : decode cX7_winter 36 = .ok (.iconst 0, 1) := by decide +kernel
theorem dX7_winter_37 : decode cX7_winter 37 = .ok (.istore 4, 2) := by decide +kernel
theorem dX7_winter_39 : decode cX7_winter 39 = .ok (.iload 4, 2) := by decide +kernel
theorem dX7_winter_41 : decode cX7_winter 41 = .ok (.aload_n 3, 1) := by decide +kernel
theorem dX7_winter_42 : decode cX7_winter 42 = .ok (.getfield 46, 3) := by decide +kernel
theorem dX7_winter_45 : decode cX7_winter 45 = .ok (.if_icmp .ge 27, 3) := by decide +kernel
theorem dX7_winter_48 : decode cX7_winter 48 = .ok (.aload_n 1, 1) := by decide +kernel
theorem dX7_winter_49 : decode cX7_winter 49 = .ok (.getfield 49, 3) := by decide +kernel
theorem dX7_winter_52 : decode cX7_winter 52 = .ok (.iload 4, 2) := by decide +kernel
theorem dX7_winter_54 : decode cX7_winter 54 = .ok (.iaload, 1) := by decide +kernel
theorem dX7_winter_55 : decode cX7_winter 55 = .ok (.ifCond .le 11, 3) := by decide +kernel
theorem dX7_winter_58 : decode cX7_winter 58 = .ok (.aload_n 0, 1) := by decide +kernel
theorem dX7_winter_59 : decode cX7_winter 59 = .ok (.aload_n 1, 1) := by decide +kernel
theorem dX7_winter_60 : decode cX7_winter 60 = .ok (.aload_n 2, 1) := by decide +kernel
theorem dX7_winter_61 : decode cX7_winter 61 = .ok (.iload 4, 2) := by decide +kernel
theorem dX7_winter_63 : decode cX7_winter 63 = .ok (.invokevirtual 52, 3) := by decide +kernel
theorem dX7_winter_66 : decode cX7_winter 66 = .ok (.iinc 4 1, 3) := by decide +kernel
theorem dX7_winter_69 : decode cX7_winter 69 = .ok (.goto (-30), 3) := by decide +kernel
theorem dX7_winter_72 : decode cX7_winter 72 = .ok (.aload_n 1, 1) := by decide +kernel
theorem dX7_winter_73 : decode cX7_winter 73 = .ok (.dup, 1) := by decide +kernel
theorem dX7_winter_74 : decode cX7_winter 74 = .ok (.getfield 56, 3) := by decide +kernel
theorem dX7_winter_77 : decode cX7_winter 77 = .ok (.iconst 1, 1) := by decide +kernel
theorem dX7_winter_78 : decode cX7_winter 78 = .ok (.iadd, 1) := by decide +kernel
theorem dX7_winter_79 : decode cX7_winter 79 = .ok (.putfield 56, 3) := by decide +kernel
theorem dX7_winter_82 : decode cX7_winter 82 = .ok (.return_, 1) := by decide +kernel
theorem dX7_winterOf_0 : decode cX7_winterOf 0 = .ok (.aload_n 1, 1) := by decide +kernel
theorem dX7_winterOf_1 : decode cX7_winterOf 1 = .ok (.iload_n 3, 1) := by decide +kernel
theorem dX7_winterOf_2 : decode cX7_winterOf 2 = .ok (.invokestatic 59, 3) := by decide +kernel
theorem dX7_winterOf_5 : decode cX7_winterOf 5 = .ok (.istore 4, 2) := by decide +kernel
theorem dX7_winterOf_7 : decode cX7_winterOf 7 = .ok (.aload_n 0, 1) := by decide +kernel
theorem dX7_winterOf_8 : decode cX7_winterOf 8 = .ok (.aload_n 1, 1) := by decide +kernel
theorem dX7_winterOf_9 : decode cX7_winterOf 9 = .ok (.iload_n 3, 1) := by decide +kernel
theorem dX7_winterOf_10 : decode cX7_winterOf 10 = .ok (.invokevirtual 63, 3) := by decide +kernel
theorem dX7_winterOf_13 : decode cX7_winterOf 13 = .ok (.istore 5, 2) := by decide +kernel
theorem dX7_winterOf_15 : decode cX7_winterOf 15 = .ok (.aload_n 0, 1) := by decide +kernel
theorem dX7_winterOf_16 : decode cX7_winterOf 16 = .ok (.aload_n 1, 1) := by decide +kernel
theorem dX7_winterOf_17 : decode cX7_winterOf 17 = .ok (.iload_n 3, 1) := by decide +kernel
theorem dX7_winterOf_18 : decode cX7_winterOf 18 = .ok (.iload 4, 2) := by decide +kernel
theorem dX7_winterOf_20 : decode cX7_winterOf 20 = .ok (.invokevirtual 66, 3) := by decide +kernel
theorem dX7_winterOf_23 : decode cX7_winterOf 23 = .ok (.istore 6, 2) := by decide +kernel
theorem dX7_winterOf_25 : decode cX7_winterOf 25 = .ok (.bipush 20, 2) := by decide +kernel
theorem dX7_winterOf_27 : decode cX7_winterOf 27 = .ok (.aload_n 1, 1) := by decide +kernel
theorem dX7_winterOf_28 : decode cX7_winterOf 28 = .ok (.getfield 49, 3) := by decide +kernel
theorem dX7_winterOf_31 : decode cX7_winterOf 31 = .ok (.iload_n 3, 1) := by decide +kernel
theorem dX7_winterOf_32 : decode cX7_winterOf 32 = .ok (.iaload, 1) := by decide +kernel
theorem dX7_winterOf_33 : decode cX7_winterOf 33 = .ok (.iload 5, 2) := by decide +kernel
theorem dX7_winterOf_35 : decode cX7_winterOf 35 = .ok (.isub, 1) := by decide +kernel
theorem dX7_winterOf_36 : decode cX7_winterOf 36 = .ok (.iload 4, 2) := by decide +kernel
theorem dX7_winterOf_38 : decode cX7_winterOf 38 = .ok (.iadd, 1) := by decide +kernel
theorem dX7_winterOf_39 : decode cX7_winterOf 39 = .ok (.invokestatic 70, 3) := by decide +kernel
theorem dX7_winterOf_42 : decode cX7_winterOf 42 = .ok (.istore 7, 2) := by decide +kernel
theorem dX7_winterOf_44 : decode cX7_winterOf 44 = .ok (.aload_n 1, 1) := by decide +kernel
theorem dX7_winterOf_45 : decode cX7_winterOf 45 = .ok (.getfield 76, 3) := by decide +kernel
theorem dX7_winterOf_48 : decode cX7_winterOf 48 = .ok (.iload_n 3, 1) := by decide +kernel
theorem dX7_winterOf_49 : decode cX7_winterOf 49 = .ok (.dup2, 1) := by decide +kernel
theorem dX7_winterOf_50 : decode cX7_winterOf 50 = .ok (.iaload, 1) := by decide +kernel
theorem dX7_winterOf_51 : decode cX7_winterOf 51 = .ok (.iload 4, 2) := by decide +kernel
theorem dX7_winterOf_53 : decode cX7_winterOf 53 = .ok (.iadd, 1) := by decide +kernel
theorem dX7_winterOf_54 : decode cX7_winterOf 54 = .ok (.iastore, 1) := by decide +kernel
theorem dX7_winterOf_55 : decode cX7_winterOf 55 = .ok (.aload_n 1, 1) := by decide +kernel
theorem dX7_winterOf_56 : decode cX7_winterOf 56 = .ok (.getfield 79, 3) := by decide +kernel
theorem dX7_winterOf_59 : decode cX7_winterOf 59 = .ok (.iload_n 3, 1) := by decide +kernel
theorem dX7_winterOf_60 : decode cX7_winterOf 60 = .ok (.dup2, 1) := by decide +kernel
theorem dX7_winterOf_61 : decode cX7_winterOf 61 = .ok (.iaload, 1) := by decide +kernel
theorem dX7_winterOf_62 : decode cX7_winterOf 62 = .ok (.iload 5, 2) := by decide +kernel
theorem dX7_winterOf_64 : decode cX7_winterOf 64 = .ok (.iadd, 1) := by decide +kernel
theorem dX7_winterOf_65 : decode cX7_winterOf 65 = .ok (.iastore, 1) := by decide +kernel
theorem dX7_winterOf_66 : decode cX7_winterOf 66 = .ok (.aload_n 1, 1) := by decide +kernel
theorem dX7_winterOf_67 : decode cX7_winterOf 67 = .ok (.getfield 49, 3) := by decide +kernel
theorem dX7_winterOf_70 : decode cX7_winterOf 70 = .ok (.iload_n 3, 1) := by decide +kernel
theorem dX7_winterOf_71 : decode cX7_winterOf 71 = .ok (.iload 7, 2) := by decide +kernel
theorem dX7_winterOf_73 : decode cX7_winterOf 73 = .ok (.iastore, 1) := by decide +kernel
theorem dX7_winterOf_74 : decode cX7_winterOf 74 = .ok (.iload 7, 2) := by decide +kernel
theorem dX7_winterOf_76 : decode cX7_winterOf 76 = .ok (.ifCond .ne 9, 3) := by decide +kernel
theorem dX7_winterOf_79 : decode cX7_winterOf 79 = .ok (.aload_n 1, 1) := by decide +kernel
theorem dX7_winterOf_80 : decode cX7_winterOf 80 = .ok (.iload_n 3, 1) := by decide +kernel
theorem dX7_winterOf_81 : decode cX7_winterOf 81 = .ok (.invokevirtual 82, 3) := by decide +kernel
theorem dX7_winterOf_84 : decode cX7_winterOf 84 = .ok (.return_, 1) := by decide +kernel
theorem dX7_winterOf_85 : decode cX7_winterOf 85 = .ok (.aload_n 0, 1) := by decide +kernel
theorem dX7_winterOf_86 : decode cX7_winterOf 86 = .ok (.getfield 19, 3) := by decide +kernel
theorem dX7_winterOf_89 : decode cX7_winterOf 89 = .ok (.iconst 0, 1) := by decide +kernel
theorem dX7_winterOf_90 : decode cX7_winterOf 90 = .ok (.iload 6, 2) := by decide +kernel
theorem dX7_winterOf_92 : decode cX7_winterOf 92 = .ok (.iastore, 1) := by decide +kernel
theorem dX7_winterOf_93 : decode cX7_winterOf 93 = .ok (.aload_n 0, 1) := by decide +kernel
theorem dX7_winterOf_94 : decode cX7_winterOf 94 = .ok (.getfield 19, 3) := by decide +kernel
theorem dX7_winterOf_97 : decode cX7_winterOf 97 = .ok (.iconst 1, 1) := by decide +kernel
theorem dX7_winterOf_98 : decode cX7_winterOf 98 = .ok (.iload 5, 2) := by decide +kernel
theorem dX7_winterOf_100 : decode cX7_winterOf 100 = .ok (.iastore, 1) := by decide +kernel
theorem dX7_winterOf_101 : decode cX7_winterOf 101 = .ok (.aload_n 0, 1) := by decide +kernel
theorem dX7_winterOf_102 : decode cX7_winterOf 102 = .ok (.getfield 19, 3) := by decide +kernel
theorem dX7_winterOf_105 : decode cX7_winterOf 105 = .ok (.iconst 2, 1) := by decide +kernel
theorem dX7_winterOf_106 : decode cX7_winterOf 106 = .ok (.iload 7, 2) := by decide +kernel
theorem dX7_winterOf_108 : decode cX7_winterOf 108 = .ok (.iastore, 1) := by decide +kernel
theorem dX7_winterOf_109 : decode cX7_winterOf 109 = .ok (.aload_n 0, 1) := by decide +kernel
theorem dX7_winterOf_110 : decode cX7_winterOf 110 = .ok (.getfield 19, 3) := by decide +kernel
theorem dX7_winterOf_113 : decode cX7_winterOf 113 = .ok (.iconst 3, 1) := by decide +kernel
theorem dX7_winterOf_114 : decode cX7_winterOf 114 = .ok (.aload_n 1, 1) := by decide +kernel
theorem dX7_winterOf_115 : decode cX7_winterOf 115 = .ok (.getfield 86, 3) := by decide +kernel
theorem dX7_winterOf_118 : decode cX7_winterOf 118 = .ok (.iload_n 3, 1) := by decide +kernel
theorem dX7_winterOf_119 : decode cX7_winterOf 119 = .ok (.iaload, 1) := by decide +kernel
theorem dX7_winterOf_120 : decode cX7_winterOf 120 = .ok (.iastore, 1) := by decide +kernel
theorem dX7_winterOf_121 : decode cX7_winterOf 121 = .ok (.aload_n 0, 1) := by decide +kernel
theorem dX7_winterOf_122 : decode cX7_winterOf 122 = .ok (.getfield 19, 3) := by decide +kernel
theorem dX7_winterOf_125 : decode cX7_winterOf 125 = .ok (.iconst 4, 1) := by decide +kernel
theorem dX7_winterOf_126 : decode cX7_winterOf 126 = .ok (.aload_n 1, 1) := by decide +kernel
theorem dX7_winterOf_127 : decode cX7_winterOf 127 = .ok (.getfield 89, 3) := by decide +kernel
theorem dX7_winterOf_130 : decode cX7_winterOf 130 = .ok (.iload_n 3, 1) := by decide +kernel
theorem dX7_winterOf_131 : decode cX7_winterOf 131 = .ok (.iaload, 1) := by decide +kernel
theorem dX7_winterOf_132 : decode cX7_winterOf 132 = .ok (.iastore, 1) := by decide +kernel
theorem dX7_winterOf_133 : decode cX7_winterOf 133 = .ok (.aload_n 0, 1) := by decide +kernel
theorem dX7_winterOf_134 : decode cX7_winterOf 134 = .ok (.getfield 19, 3) := by decide +kernel
theorem dX7_winterOf_137 : decode cX7_winterOf 137 = .ok (.iconst 5, 1) := by decide +kernel
theorem dX7_winterOf_138 : decode cX7_winterOf 138 = .ok (.aload_n 1, 1) := by decide +kernel
theorem dX7_winterOf_139 : decode cX7_winterOf 139 = .ok (.getfield 56, 3) := by decide +kernel
theorem dX7_winterOf_142 : decode cX7_winterOf 142 = .ok (.iconst 1, 1) := by decide +kernel
theorem dX7_winterOf_143 : decode cX7_winterOf 143 = .ok (.iadd, 1) := by decide +kernel
theorem dX7_winterOf_144 : decode cX7_winterOf 144 = .ok (.iastore, 1) := by decide +kernel
theorem dX7_winterOf_145 : decode cX7_winterOf 145 = .ok (.aload_n 1, 1) := by decide +kernel
theorem dX7_winterOf_146 : decode cX7_winterOf 146 = .ok (.getfield 89, 3) := by decide +kernel
theorem dX7_winterOf_149 : decode cX7_winterOf 149 = .ok (.iload_n 3, 1) := by decide +kernel
theorem dX7_winterOf_150 : decode cX7_winterOf 150 = .ok (.aload_n 1, 1) := by decide +kernel
theorem dX7_winterOf_151 : decode cX7_winterOf 151 = .ok (.getfield 89, 3) := by decide +kernel
theorem dX7_winterOf_154 : decode cX7_winterOf 154 = .ok (.iload_n 3, 1) := by decide +kernel
theorem dX7_winterOf_155 : decode cX7_winterOf 155 = .ok (.iaload, 1) := by decide +kernel
theorem dX7_winterOf_156 : decode cX7_winterOf 156 = .ok (.aload_n 2, 1) := by decide +kernel
theorem dX7_winterOf_157 : decode cX7_winterOf 157 = .ok (.aload_n 0, 1) := by decide +kernel
theorem dX7_winterOf_158 : decode cX7_winterOf 158 = .ok (.getfield 19, 3) := by decide +kernel
theorem dX7_winterOf_161 : decode cX7_winterOf 161 = .ok (.invokevirtual 92, 3) := by decide +kernel
theorem dX7_winterOf_164 : decode cX7_winterOf 164 = .ok (.iadd, 1) := by decide +kernel
theorem dX7_winterOf_165 : decode cX7_winterOf 165 = .ok (.i2l, 1) := by decide +kernel
theorem dX7_winterOf_166 : decode cX7_winterOf 166 = .ok (.bipush 9, 2) := by decide +kernel
theorem dX7_winterOf_168 : decode cX7_winterOf 168 = .ok (.invokestatic 96, 3) := by decide +kernel
theorem dX7_winterOf_171 : decode cX7_winterOf 171 = .ok (.iastore, 1) := by decide +kernel
theorem dX7_winterOf_172 : decode cX7_winterOf 172 = .ok (.return_, 1) := by decide +kernel
def w_X7_drawDead : List Cond := .code yX7_drawDead cX7_drawDead 7 (some .int) :: ([Cond.fieldLink RX7 86 "HeadYear$Folk" "level" "[I", Cond.fieldLink RX7 33 "HeadYear$Folk" "valley" "LHeadYear$Valley;", Cond.fieldLink RX7 109 "HeadYear$Valley" "danger" "[I", Cond.fieldLink RX7 11 "HeadYear$Seasons" "lacks" "[I", Cond.fieldLink RX7 49 "HeadYear$Folk" "heads" "[I", Cond.methodLink RX7 100 yX2_draw, Cond.instanceMethod yX2_draw, Cond.selects RX2 yX2_draw yX2_draw, Cond.initialized RX2] ++ (u_ws RX2 TX2 12 ++ (u_ws RX9 TX9 10 ++ (u_ws RX7 TX7 5 ++ (w_X2_draw ++ ([]))))))
theorem in_X7_drawDead_X2 : ∀ w ∈ u_ws RX2 TX2 12, w ∈ w_X7_drawDead := fun _ h => List.mem_cons_of_mem _ (List.mem_append_right _ (List.mem_append_left _ h))
theorem in_X7_drawDead_X9 : ∀ w ∈ u_ws RX9 TX9 10, w ∈ w_X7_drawDead := fun _ h => List.mem_cons_of_mem _ (List.mem_append_right _ (List.mem_append_right _ (List.mem_append_left _ h)))
theorem in_X7_drawDead_X7 : ∀ w ∈ u_ws RX7 TX7 5, w ∈ w_X7_drawDead := fun _ h => List.mem_cons_of_mem _ (List.mem_append_right _ (List.mem_append_right _ (List.mem_append_right _ (List.mem_append_left _ h))))
theorem gg_X7_drawDead_X2_draw : GoodIn w_X7_drawDead w_X2_draw := goodIn_sub (fun _ h => List.mem_cons_of_mem _ (List.mem_append_right _ (List.mem_append_right _ (List.mem_append_right _ (List.mem_append_right _ (List.mem_append_left _ h)))))) (by decide +kernel)
theorem g_X7_drawDead_X2_draw_100 : GoodIn w_X7_drawDead (wsV RX7 100 RX2 yX2_draw w_X2_draw) := goodIn_app (goodIn_of _ (by decide +kernel)) gg_X7_drawDead_X2_draw
set_option maxHeartbeats 4000000 in
set_option maxRecDepth 100000 in
theorem c_X7_drawDead (l : Launch) (E : py_E) (G : wf_G) (L : List Nat) (f : py_F) (sz : Nat) (h : Nat) (o : Nat) (a : Int32) (hG : GT G) (hWF : WF E G L f) (Th : G.1 h = 8) (To : G.1 o = 3) (Ba : (0 ≤ a.toInt ∧ a.toInt ≤ 9)) (hp0 : 0 ≤ ari f (G.2 o 1) a) : Met l yX7_drawDead w_X7_drawDead ({ frames := 1, cells := 0, slots := 0, locals := 21 }) (py_Pc E [.ref h, .ref o, .int a] L f sz) (py_Qi E L f sz (fun r L1 f1 => (0 ≤ r.toInt ∧ r.toInt ≤ ari f (G.2 o 0) a) ∧ WF E G L1 f1 ∧ RP E G f f1 ∧ KP G [3] false f f1)) 0 0 (va_A (va_pl L f) sz) := by
  refine Met.ofW (cc := cX7_drawDead) (maxL := 7) (ret := (some .int)) (by decide) rfl ?_
  intro p e s m args below meth c s₁ B hml hv
  obtain ⟨rfl, rfl, hw⟩ := py_start hv
  have G0 : CallFix p m c cX7_drawDead 7 s _ w_X7_drawDead RX7 := ⟨B.exec, B.bytes, hml, findClass_of_methodNamed B.named, atoms_spec (ws := w_X7_drawDead) B.pre⟩
  have hr := B.returns
  have hlk := B.notSynchronized
  have kcm1 : (-1 : Int32).toInt = -1 := rfl
  have kc0 : (0 : Int32).toInt = 0 := rfl
  have kc1 : (1 : Int32).toInt = 1 := rfl
  have kc100 : (100 : Int32).toInt = 100 := rfl
  have hl := lv_entry ([.ref h, .ref o, .int a]) (n := 7) (Nat.le_of_ble_eq_true rfl)
  rw [lg_entry_eq]
  generalize (lg_sl ([.ref h, .ref o, .int a]) ++ List.replicate (7 - (lg_sl ([.ref h, .ref o, .int a])).length) Slot.unset).toArray = ls at hl ⊢
  have hl : lv_has ls 7 [(0, .ref h), (1, .ref o), (2, .int a)] := hl
  have hRP : RP E G f f := RP.refl
  have hKP : KP G [3] false f f := KP.refl
  refine lv_aload_n G0.1 G0.2.1 dX7_drawDead_0 rfl (lv_at hl 1 rfl) ?_
  obtain ⟨t_1, t_2, t_3, t_4, t_5, t_6, t_7, t_8, t_9⟩ := wt_2 hG To
  obtain ⟨r_10, y_11, v_12, hr_15, ty_13, b_14⟩ := wg_2 hWF To
  refine py_get (C := RX2) (T := TX2) (N := 12) (k := 1) (v := .ref (G.2 o 1)) G0 hw in_X7_drawDead_X2 rfl hr_15 (by decide) (by decide +kernel) rfl dX7_drawDead_1 ?_
  refine lv_iload_n G0.1 G0.2.1 dX7_drawDead_4 rfl (lv_at hl 2 rfl) ?_
  obtain ⟨g_16, ha_17, hi_18⟩ := wf_arr (n := 10) (lo := (-1)) (hi := 7) hWF t_2 (by omega) (wf_own1 E G _ o)
  have rg_19 : vp_in a 10 := ti_in (by omega) (by omega)
  refine py_iald G0 hw ha_17 rg_19 dX7_drawDead_5 ?_
  refine lv_topi (fun x_20 ex_20 => ?_)
  have bx_20 := ti_at hi_18 rg_19 ex_20
  have qx_20 := ari_ld ha_17 ex_20
  refine lv_istore_n (lv' := [(3, .int x_20), (0, .ref h), (1, .ref o), (2, .int a)]) G0.1 G0.2.1 dX7_drawDead_6 rfl hl (by decide) rfl (fun ls hl => ?_)
  refine lv_aload_n G0.1 G0.2.1 dX7_drawDead_7 rfl (lv_at hl 2 rfl) ?_
  refine py_get (C := RX2) (T := TX2) (N := 12) (k := 9) (v := .ref r_10) G0 hw in_X7_drawDead_X2 rfl hr_15 (by decide) (by decide +kernel) rfl dX7_drawDead_8 ?_
  obtain ⟨t_21, t_22, t_23, t_24, t_25, t_26, t_27, t_28⟩ := wt_9 hG ty_13
  obtain ⟨v_29, v_30, hr_33, b_31, b_32⟩ := wg_9 hWF ty_13
  have tq_34 := va_eq hr_33
  refine py_get (C := RX9) (T := TX9) (N := 10) (k := 2) (v := .ref (G.2 r_10 2)) G0 hw in_X7_drawDead_X9 rfl hr_33 (by decide) (by decide +kernel) rfl dX7_drawDead_11 ?_
  refine lv_iload_n G0.1 G0.2.1 dX7_drawDead_14 rfl (lv_at hl 0 rfl) ?_
  obtain ⟨g_35, ha_36, hi_37⟩ := wf_arr (n := 8) (lo := (-2147483648)) (hi := 2147483647) hWF t_23 (by decide) (fun _ => rfl)
  have rg_38 : vp_in x_20 8 := ti_in (by omega) (by omega)
  refine py_iald G0 hw ha_36 rg_38 dX7_drawDead_15 ?_
  refine lv_topi (fun x_39 ex_39 => ?_)
  have bx_39 := wf_free x_39
  have qx_39 := ari_ld ha_36 ex_39
  refine lv_aload_n G0.1 G0.2.1 dX7_drawDead_16 rfl (lv_at hl 1 rfl) ?_
  obtain ⟨t_40, t_41, t_42⟩ := wt_7 hG Th
  obtain ⟨v_43, v_44, hr_46, b_45⟩ := wg_7 hWF Th
  have bv_43 := wf_free v_43
  refine py_get (C := RX7) (T := TX7) (N := 5) (k := 0) (v := .ref (G.2 h 0)) G0 hw in_X7_drawDead_X7 rfl hr_46 (by decide) (by decide +kernel) rfl dX7_drawDead_17 ?_
  refine lv_iload_n G0.1 G0.2.1 dX7_drawDead_20 rfl (lv_at hl 0 rfl) ?_
  obtain ⟨g_47, ha_48, hi_49⟩ := wf_arr (n := 8) (lo := (-2147483648)) (hi := 2147483647) hWF t_40 (by decide) (fun _ => rfl)
  have rg_50 : vp_in x_20 8 := ti_in (by omega) (by omega)
  refine py_iald G0 hw ha_48 rg_50 dX7_drawDead_21 ?_
  refine lv_topi (fun x_51 ex_51 => ?_)
  have bx_51 := wf_free x_51
  have qx_51 := ari_ld ha_48 ex_51
  refine lv_iadd G0.1 G0.2.1 dX7_drawDead_22 ?_
  refine lv_topi (fun x_52 ex_52 => ?_)
  first | have tx_52 := ti_add ex_52 (by omega) (by omega) | skip
  refine lv_istore (lv' := [(4, .int x_52), (3, .int x_20), (0, .ref h), (1, .ref o), (2, .int a)]) G0.1 G0.2.1 dX7_drawDead_23 hl (by decide) rfl (fun ls hl => ?_)
  refine lv_iconst (v := 0) G0.1 G0.2.1 dX7_drawDead_25 (by decide) ?_
  refine lv_istore (lv' := [(5, .int 0), (4, .int x_52), (3, .int x_20), (0, .ref h), (1, .ref o), (2, .int a)]) G0.1 G0.2.1 dX7_drawDead_26 hl (by decide) rfl (fun ls hl => ?_)
  refine lv_iconst (v := 0) G0.1 G0.2.1 dX7_drawDead_28 (by decide) ?_
  refine lv_istore (lv' := [(6, .int 0), (5, .int 0), (4, .int x_52), (3, .int x_20), (0, .ref h), (1, .ref o), (2, .int a)]) G0.1 G0.2.1 dX7_drawDead_29 hl (by decide) rfl (fun ls hl => ?_)
  have lo_31 : ∀ n_31 : Nat, ∀ (v_53 : Int32) (v_54 : Int32) (L_j31 : List Nat) (f_j31 : py_F) (H_j31 : Heap) (locs : List Loc) (ls : Array Slot), (2147483647 - v_53.toInt).toNat = n_31 → (0 ≤ v_53.toInt ∧ v_53.toInt ≤ 2147483647) → (0 ≤ v_54.toInt ∧ v_54.toInt ≤ 2147483647) → WF E G L_j31 f_j31 → RP E G f f_j31 → KP G [3] false f f_j31 → (v_54.toInt ≤ v_53.toInt) → (v_53.toInt = 0 ∨ v_53.toInt ≤ ari f (G.2 o 0) a) → (ari f_j31 (G.2 o 0) a = ari f (G.2 o 0) a) → py_W E (va_A (va_pl L f) s.heap.size) s L_j31 f_j31 H_j31 locs → lv_has ls 7 [(6, .int v_53), (5, .int v_54), (4, .int x_52), (3, .int x_20), (0, .ref h), (1, .ref o), (2, .int a)] → W p l e (headSpec w_X7_drawDead ({ frames := 1, cells := 0, slots := 0, locals := 21 })).room s m ([.ref h, .ref o, .int a] : List Value).toArray below meth c H_j31 locs 0 0 (MQ below (py_Qi E L f s.heap.size (fun r L1 f1 => (0 ≤ r.toInt ∧ r.toInt ≤ ari f (G.2 o 0) a) ∧ WF E G L1 f1 ∧ RP E G f f1 ∧ KP G [3] false f f1)) ([.ref h, .ref o, .int a] : List Value).toArray s 0 0 (va_A (va_pl L f) s.heap.size)) (F0 m 31 ls []) := by
    intro n_31
    induction n_31 using Nat.strongRecOn with
    | _ n_31 ih_31 =>
      intro v_53 v_54 L_j31 f_j31 H_j31 locs ls hn_31 bv_53 bv_54 hWF hRP hKP iv0 iv1 iv2 hw hl
      refine lv_iload G0.1 G0.2.1 dX7_drawDead_31 (lv_at hl 0 rfl) ?_
      refine lv_aload_n G0.1 G0.2.1 dX7_drawDead_33 rfl (lv_at hl 5 rfl) ?_
      obtain ⟨r_55, y_56, v_57, hr_60, ty_58, b_59⟩ := wg_2 hWF To
      refine py_get (C := RX2) (T := TX2) (N := 12) (k := 0) (v := .ref (G.2 o 0)) G0 hw in_X7_drawDead_X2 rfl hr_60 (by decide) (by decide +kernel) rfl dX7_drawDead_34 ?_
      refine lv_iload_n G0.1 G0.2.1 dX7_drawDead_37 rfl (lv_at hl 6 rfl) ?_
      obtain ⟨g_61, ha_62, hi_63⟩ := wf_arr (n := 10) (lo := 0) (hi := 20) hWF t_1 (by omega) (wf_own0 E G _ o)
      have rg_64 : vp_in a 10 := ti_in (by omega) (by omega)
      refine py_iald G0 hw ha_62 rg_64 dX7_drawDead_38 ?_
      refine lv_topi (fun x_65 ex_65 => ?_)
      have bx_65 := ti_at hi_63 rg_64 ex_65
      have qx_65 := ari_ld ha_62 ex_65
      refine lv_icmp_ge (tgt := 69) G0.1 G0.2.1 dX7_drawDead_39 (by decide) (fun c_66 => ?_) (fun c_66 => ?_)
      · skip
        have tc_66 := ti_le c_66
        refine lv_iload G0.1 G0.2.1 dX7_drawDead_69 (lv_at hl 1 rfl) ?_
        exact py_iret G0 hr rfl hlk hw ⟨(by first | omega | (intro q; omega)), hWF, hRP, hKP⟩ dX7_drawDead_71
      · skip
        have tc_66 := ti_nle c_66
        refine lv_iload G0.1 G0.2.1 dX7_drawDead_42 (lv_at hl 1 rfl) ?_
        refine lv_aload_n G0.1 G0.2.1 dX7_drawDead_44 rfl (lv_at hl 5 rfl) ?_
        refine lv_bipush (v := 100) G0.1 G0.2.1 dX7_drawDead_45 (by decide) ?_
        refine py_calli hw (va_runV (As := [.int 100]) (rest := [.int v_54]) G0 (c_X2_draw l E G L_j31 f_j31 H_j31.size o 100 hG hWF To) (cwV 1 G0.2.2.2.2 g_X7_drawDead_X2_draw_100 rfl rfl rfl (by decide +kernel) ⟨(Nat.le_of_ble_eq_true rfl), (Nat.le_of_ble_eq_true rfl)⟩) (py_preV hw (C := RX2) (T := TX2) (N := 12) rfl hr_60) rfl rfl hl.1 rfl (lv_room (Nat.le_of_ble_eq_true rfl)) dX7_drawDead_47 ⟨(Nat.le_of_ble_eq_true rfl), (Nat.le_of_ble_eq_true rfl)⟩) (fun r_71 L_67 f_68 H_69 locs hp_70 hw => ?_)
        obtain ⟨hWF, hq_72, kp_73⟩ := hp_70
        have aq_74 := ari_kp (kp_f kp_73 t_1 (by omega) (by simp <;> omega) (fun q => absurd q (by decide))) a
        have hRP := hRP.trans hq_72
        have hKP := hKP.trans kp_73 (by decide) (by decide)
        have br_71 := wf_free r_71
        refine lv_iload G0.1 G0.2.1 dX7_drawDead_50 (lv_at hl 2 rfl) ?_
        have jn_60 : ∀ (v_75 : Int32) (H_j60 : Heap) (locs : List Loc) (ls : Array Slot), (0 ≤ v_75.toInt ∧ v_75.toInt ≤ 1) → py_W E (va_A (va_pl L f) s.heap.size) s L_67 f_68 H_j60 locs → lv_has ls 7 [(6, .int v_53), (5, .int v_54), (4, .int x_52), (3, .int x_20), (0, .ref h), (1, .ref o), (2, .int a)] → W p l e (headSpec w_X7_drawDead ({ frames := 1, cells := 0, slots := 0, locals := 21 })).room s m ([.ref h, .ref o, .int a] : List Value).toArray below meth c H_j60 locs 0 0 (MQ below (py_Qi E L f s.heap.size (fun r L1 f1 => (0 ≤ r.toInt ∧ r.toInt ≤ ari f (G.2 o 0) a) ∧ WF E G L1 f1 ∧ RP E G f f1 ∧ KP G [3] false f f1)) ([.ref h, .ref o, .int a] : List Value).toArray s 0 0 (va_A (va_pl L f) s.heap.size)) (F0 m 60 ls [.int v_75, .int v_54]) := by
          intro v_75 H_j60 locs ls bv_75 hw hl
          refine lv_iadd G0.1 G0.2.1 dX7_drawDead_60 ?_
          refine lv_topi (fun x_76 ex_76 => ?_)
          first | have tx_76 := ti_add ex_76 (by omega) (by omega) | skip
          refine lv_istore (lv' := [(5, .int x_76), (6, .int v_53), (4, .int x_52), (3, .int x_20), (0, .ref h), (1, .ref o), (2, .int a)]) G0.1 G0.2.1 dX7_drawDead_61 hl (by decide) rfl (fun ls hl => ?_)
          obtain ⟨x_77, ex_77⟩ : ∃ y : Int32, y = v_53 + 1 := ⟨_, rfl⟩
          first | have tx_77 := ti_add ex_77 (by omega) (by omega) | skip
          refine lv_iinc (v := x_77) (lv' := [(6, .int x_77), (5, .int x_76), (4, .int x_52), (3, .int x_20), (0, .ref h), (1, .ref o), (2, .int a)]) G0.1 G0.2.1 dX7_drawDead_63 hl (k := 1) rfl (show _ + (1 : Int32) = _ from ex_77.symm) (by decide) rfl (fun ls hl => ?_)
          refine lv_goto (tgt := 31) G0.1 G0.2.1 dX7_drawDead_66 (by decide) ?_
          exact ih_31 ((2147483647 - x_77.toInt).toNat) (by omega) x_77 x_76 L_67 f_68 _ _ ls rfl ⟨by omega, by omega⟩ ⟨by omega, by omega⟩ hWF hRP hKP (by first | omega | (intros; omega)) (by first | omega | (intros; omega)) (by first | omega | (intros; omega)) hw (lv_sub hl [0, 1, 2, 3, 4, 5, 6] rfl)
        refine lv_icmp_ge (tgt := 59) G0.1 G0.2.1 dX7_drawDead_52 (by decide) (fun c_78 => ?_) (fun c_78 => ?_)
        · skip
          have tc_78 := ti_le c_78
          refine lv_iconst (v := 0) G0.1 G0.2.1 dX7_drawDead_59 (by decide) ?_
          exact jn_60 0 _ _ ls ⟨by omega, by omega⟩ hw (lv_sub hl [0, 1, 2, 3, 4, 5, 6] rfl)
        · skip
          have tc_78 := ti_nle c_78
          refine lv_iconst (v := 1) G0.1 G0.2.1 dX7_drawDead_55 (by decide) ?_
          refine lv_goto (tgt := 60) G0.1 G0.2.1 dX7_drawDead_56 (by decide) ?_
          exact jn_60 1 _ _ ls ⟨by omega, by omega⟩ hw (lv_sub hl [0, 1, 2, 3, 4, 5, 6] rfl)
  exact lo_31 _ 0 0 L f _ _ ls rfl ⟨by omega, by omega⟩ ⟨by omega, by omega⟩ hWF hRP hKP (by first | omega | (intros; omega)) (by first | omega | (intros; omega)) (by first | omega | (intros; omega)) hw (lv_sub hl [0, 1, 2, 3, 4, 5, 6] rfl)

def w_X7_winterOf : List Cond := .code yX7_winterOf cX7_winterOf 8 none :: ([Cond.methodLink RX7 59 yX7_drawBorn, Cond.static yX7_drawBorn, Cond.initialized RX7, Cond.methodLink RX7 63 yX7_drawDead, Cond.instanceMethod yX7_drawDead, Cond.selects RX7 yX7_drawDead yX7_drawDead, Cond.methodLink RX7 66 yX7_drawCounted, Cond.instanceMethod yX7_drawCounted, Cond.selects RX7 yX7_drawCounted yX7_drawCounted, Cond.fieldLink RX7 49 "HeadYear$Folk" "heads" "[I", Cond.methodLink RX7 70 Lib.Math.min.name, Cond.static Lib.Math.min.name, Cond.initialized "java/lang/Math", Cond.code Lib.Math.min.name Lib.Math.min.code 2 (some .int), Cond.fieldLink RX7 76 "HeadYear$Folk" "born" "[I", Cond.fieldLink RX7 79 "HeadYear$Folk" "dead" "[I", Cond.fieldLink RX7 19 "HeadYear$Seasons" "letters" "[I", Cond.fieldLink RX7 86 "HeadYear$Folk" "level" "[I", Cond.fieldLink RX7 89 "HeadYear$Folk" "debt" "[I", Cond.fieldLink RX7 56 "HeadYear$Folk" "years" "I", Cond.methodLink RX7 92 yX3_worth, Cond.instanceMethod yX3_worth, Cond.selects RX3 yX3_worth yX3_worth, Cond.initialized RX3, Cond.methodLink RX7 96 yX3_held, Cond.static yX3_held, Cond.methodLink RX7 82 yX2_empty, Cond.instanceMethod yX2_empty, Cond.selects RX2 yX2_empty yX2_empty, Cond.initialized RX2] ++ (u_ws RX2 TX2 12 ++ (u_ws RX7 TX7 5 ++ (w_X7_drawBorn ++ (w_X7_drawDead ++ (w_X7_drawCounted ++ (w_X3_worth ++ (w_X3_held ++ (w_X2_empty ++ ([]))))))))))
theorem in_X7_winterOf_X2 : ∀ w ∈ u_ws RX2 TX2 12, w ∈ w_X7_winterOf := fun _ h => List.mem_cons_of_mem _ (List.mem_append_right _ (List.mem_append_left _ h))
theorem in_X7_winterOf_X7 : ∀ w ∈ u_ws RX7 TX7 5, w ∈ w_X7_winterOf := fun _ h => List.mem_cons_of_mem _ (List.mem_append_right _ (List.mem_append_right _ (List.mem_append_left _ h)))
theorem gg_X7_winterOf_X7_drawBorn : GoodIn w_X7_winterOf w_X7_drawBorn := goodIn_sub (fun _ h => List.mem_cons_of_mem _ (List.mem_append_right _ (List.mem_append_right _ (List.mem_append_right _ (List.mem_append_left _ h))))) (by decide +kernel)
theorem gg_X7_winterOf_X7_drawDead : GoodIn w_X7_winterOf w_X7_drawDead := goodIn_sub (fun _ h => List.mem_cons_of_mem _ (List.mem_append_right _ (List.mem_append_right _ (List.mem_append_right _ (List.mem_append_right _ (List.mem_append_left _ h)))))) (by decide +kernel)
theorem gg_X7_winterOf_X7_drawCounted : GoodIn w_X7_winterOf w_X7_drawCounted := goodIn_sub (fun _ h => List.mem_cons_of_mem _ (List.mem_append_right _ (List.mem_append_right _ (List.mem_append_right _ (List.mem_append_right _ (List.mem_append_right _ (List.mem_append_left _ h))))))) (by decide +kernel)
theorem gg_X7_winterOf_X3_worth : GoodIn w_X7_winterOf w_X3_worth := goodIn_sub (fun _ h => List.mem_cons_of_mem _ (List.mem_append_right _ (List.mem_append_right _ (List.mem_append_right _ (List.mem_append_right _ (List.mem_append_right _ (List.mem_append_right _ (List.mem_append_left _ h)))))))) (by decide +kernel)
theorem gg_X7_winterOf_X3_held : GoodIn w_X7_winterOf w_X3_held := goodIn_sub (fun _ h => List.mem_cons_of_mem _ (List.mem_append_right _ (List.mem_append_right _ (List.mem_append_right _ (List.mem_append_right _ (List.mem_append_right _ (List.mem_append_right _ (List.mem_append_right _ (List.mem_append_left _ h))))))))) (by decide +kernel)
theorem gg_X7_winterOf_X2_empty : GoodIn w_X7_winterOf w_X2_empty := goodIn_sub (fun _ h => List.mem_cons_of_mem _ (List.mem_append_right _ (List.mem_append_right _ (List.mem_append_right _ (List.mem_append_right _ (List.mem_append_right _ (List.mem_append_right _ (List.mem_append_right _ (List.mem_append_right _ (List.mem_append_left _ h)))))))))) (by decide +kernel)
theorem g_X7_winterOf_X2_empty_82 : GoodIn w_X7_winterOf (wsV RX7 82 RX2 yX2_empty w_X2_empty) := goodIn_app (goodIn_of _ (by decide +kernel)) gg_X7_winterOf_X2_empty
theorem g_X7_winterOf_X3_held_96 : GoodIn w_X7_winterOf (va_wsS RX7 96 yX3_held w_X3_held) := goodIn_app (goodIn_of _ (by decide +kernel)) gg_X7_winterOf_X3_held
theorem g_X7_winterOf_X3_worth_92 : GoodIn w_X7_winterOf (wsV RX7 92 RX3 yX3_worth w_X3_worth) := goodIn_app (goodIn_of _ (by decide +kernel)) gg_X7_winterOf_X3_worth
theorem g_X7_winterOf_X7_drawBorn_59 : GoodIn w_X7_winterOf (va_wsS RX7 59 yX7_drawBorn w_X7_drawBorn) := goodIn_app (goodIn_of _ (by decide +kernel)) gg_X7_winterOf_X7_drawBorn
theorem g_X7_winterOf_X7_drawCounted_66 : GoodIn w_X7_winterOf (wsV RX7 66 RX7 yX7_drawCounted w_X7_drawCounted) := goodIn_app (goodIn_of _ (by decide +kernel)) gg_X7_winterOf_X7_drawCounted
theorem g_X7_winterOf_X7_drawDead_63 : GoodIn w_X7_winterOf (wsV RX7 63 RX7 yX7_drawDead w_X7_drawDead) := goodIn_app (goodIn_of _ (by decide +kernel)) gg_X7_winterOf_X7_drawDead
set_option maxHeartbeats 4000000 in
set_option maxRecDepth 100000 in
theorem c_X7_winterOf (l : Launch) (E : py_E) (G : wf_G) (L : List Nat) (f : py_F) (sz : Nat) (h : Nat) (o : Nat) (q : Nat) (a : Int32) (hG : GT G) (hWF : WF E G L f) (Th : G.1 h = 8) (To : G.1 o = 3) (Tq : G.1 q = 4) (Ba : (0 ≤ a.toInt ∧ a.toInt ≤ 9)) (hp0 : 1 ≤ ari f (G.2 o 0) a) (hp1 : 0 ≤ ari f (G.2 o 1) a) : Met l yX7_winterOf w_X7_winterOf ({ frames := 2, cells := 0, slots := 0, locals := 49 }) (py_Pc E [.ref h, .ref o, .ref q, .int a] L f sz) (py_Qv E L f sz (fun L1 f1 => WF E G L1 f1 ∧ RP E G f f1 ∧ KP G [3, 26, 37, 30, 21, 32] true f f1)) 0 0 (va_A (va_pl L f) sz) := by
  refine Met.ofW (cc := cX7_winterOf) (maxL := 8) (ret := none) (by decide) rfl ?_
  intro p e s m args below meth c s₁ B hml hv
  obtain ⟨rfl, rfl, hw⟩ := py_start hv
  have G0 : CallFix p m c cX7_winterOf 8 s _ w_X7_winterOf RX7 := ⟨B.exec, B.bytes, hml, findClass_of_methodNamed B.named, atoms_spec (ws := w_X7_winterOf) B.pre⟩
  have hr := B.returns
  have hlk := B.notSynchronized
  have kcm1 : (-1 : Int32).toInt = -1 := rfl
  have kc0 : (0 : Int32).toInt = 0 := rfl
  have kc1 : (1 : Int32).toInt = 1 := rfl
  have kc2 : (2 : Int32).toInt = 2 := rfl
  have kc3 : (3 : Int32).toInt = 3 := rfl
  have kc4 : (4 : Int32).toInt = 4 := rfl
  have kc5 : (5 : Int32).toInt = 5 := rfl
  have kc9 : (9 : Int32).toInt = 9 := rfl
  have kc20 : (20 : Int32).toInt = 20 := rfl
  have hl := lv_entry ([.ref h, .ref o, .ref q, .int a]) (n := 8) (Nat.le_of_ble_eq_true rfl)
  rw [lg_entry_eq]
  generalize (lg_sl ([.ref h, .ref o, .ref q, .int a]) ++ List.replicate (8 - (lg_sl ([.ref h, .ref o, .ref q, .int a])).length) Slot.unset).toArray = ls at hl ⊢
  have hl : lv_has ls 8 [(0, .ref h), (1, .ref o), (2, .ref q), (3, .int a)] := hl
  have hRP : RP E G f f := RP.refl
  have hKP : KP G [3, 26, 37, 30, 21, 32] true f f := KP.refl
  refine lv_aload_n G0.1 G0.2.1 dX7_winterOf_0 rfl (lv_at hl 1 rfl) ?_
  refine lv_iload_n G0.1 G0.2.1 dX7_winterOf_1 rfl (lv_at hl 3 rfl) ?_
  refine py_calli hw (va_runS (As := [.ref o, .int a]) (rest := []) G0 (c_X7_drawBorn l E G L f s.heap.size o a hG hWF To ⟨by omega, by omega⟩) (va_cwS 2 G0.2.2.2.2 g_X7_winterOf_X7_drawBorn_59 rfl rfl rfl (by decide +kernel) ⟨(Nat.le_of_ble_eq_true rfl), (Nat.le_of_ble_eq_true rfl)⟩) (py_preS hw) rfl rfl hl.1 rfl (lv_room (Nat.le_of_ble_eq_true rfl)) dX7_winterOf_2 ⟨(Nat.le_of_ble_eq_true rfl), (Nat.le_of_ble_eq_true rfl)⟩) (fun r_5 L_1 f_2 H_3 locs hp_4 hw => ?_)
  obtain ⟨b_6, hWF, hq_7, kp_8⟩ := hp_4
  obtain ⟨t_9, t_10, t_11, t_12, t_13, t_14, t_15, t_16, t_17⟩ := wt_2 hG To
  have aq_18 := ari_kp (kp_f kp_8 t_9 (by omega) (by simp <;> omega) (fun q => absurd q (by decide))) a
  have aq_19 := ari_kp (kp_f kp_8 t_10 (by omega) (by simp <;> omega) (fun q => absurd q (by decide))) a
  have hRP := hRP.trans hq_7
  have hKP := hKP.trans kp_8 (by decide) (by decide)
  refine lv_istore (lv' := [(4, .int r_5), (0, .ref h), (1, .ref o), (2, .ref q), (3, .int a)]) G0.1 G0.2.1 dX7_winterOf_5 hl (by decide) rfl (fun ls hl => ?_)
  refine lv_aload_n G0.1 G0.2.1 dX7_winterOf_7 rfl (lv_at hl 1 rfl) ?_
  refine lv_aload_n G0.1 G0.2.1 dX7_winterOf_8 rfl (lv_at hl 2 rfl) ?_
  refine lv_iload_n G0.1 G0.2.1 dX7_winterOf_9 rfl (lv_at hl 4 rfl) ?_
  obtain ⟨t_20, t_21, t_22⟩ := wt_7 hG Th
  obtain ⟨v_23, v_24, hr_26, b_25⟩ := wg_7 hWF Th
  have bv_23 := wf_free v_23
  refine py_calli hw (va_runV (As := [.ref o, .int a]) (rest := []) G0 (c_X7_drawDead l E G L_1 f_2 H_3.size h o a hG hWF Th To ⟨by omega, by omega⟩ (show 0 ≤ ari f_2 (G.2 o 1) a by omega)) (cwV 2 G0.2.2.2.2 g_X7_winterOf_X7_drawDead_63 rfl rfl rfl (by decide +kernel) ⟨(Nat.le_of_ble_eq_true rfl), (Nat.le_of_ble_eq_true rfl)⟩) (py_preV hw (C := RX7) (T := TX7) (N := 5) rfl hr_26) rfl rfl hl.1 rfl (lv_room (Nat.le_of_ble_eq_true rfl)) dX7_winterOf_10 ⟨(Nat.le_of_ble_eq_true rfl), (Nat.le_of_ble_eq_true rfl)⟩) (fun r_31 L_27 f_28 H_29 locs hp_30 hw => ?_)
  obtain ⟨en_32, hWF, hq_33, kp_34⟩ := hp_30
  have aq_35 := ari_kp (kp_f kp_34 t_9 (by omega) (by simp <;> omega) (fun q => absurd q (by decide))) a
  have aq_36 := ari_kp (kp_f kp_34 t_10 (by omega) (by simp <;> omega) (fun q => absurd q (by decide))) a
  have hRP := hRP.trans hq_33
  have hKP := hKP.trans kp_34 (by decide) (by decide)
  have hr_26 := kp_at kp_34 hWF Th (by decide) (by decide) (by decide) hr_26
  have br_31 := wf_free r_31
  refine lv_istore (lv' := [(5, .int r_31), (4, .int r_5), (0, .ref h), (1, .ref o), (2, .ref q), (3, .int a)]) G0.1 G0.2.1 dX7_winterOf_13 hl (by decide) rfl (fun ls hl => ?_)
  refine lv_aload_n G0.1 G0.2.1 dX7_winterOf_15 rfl (lv_at hl 2 rfl) ?_
  refine lv_aload_n G0.1 G0.2.1 dX7_winterOf_16 rfl (lv_at hl 3 rfl) ?_
  refine lv_iload_n G0.1 G0.2.1 dX7_winterOf_17 rfl (lv_at hl 5 rfl) ?_
  refine lv_iload G0.1 G0.2.1 dX7_winterOf_18 (lv_at hl 1 rfl) ?_
  refine py_calli hw (va_runV (As := [.ref o, .int a, .int r_5]) (rest := []) G0 (c_X7_drawCounted l E G L_27 f_28 H_29.size h o a r_5 hG hWF Th To ⟨by omega, by omega⟩ ⟨by omega, by omega⟩) (cwV 3 G0.2.2.2.2 g_X7_winterOf_X7_drawCounted_66 rfl rfl rfl (by decide +kernel) ⟨(Nat.le_of_ble_eq_true rfl), (Nat.le_of_ble_eq_true rfl)⟩) (py_preV hw (C := RX7) (T := TX7) (N := 5) rfl hr_26) rfl rfl hl.1 rfl (lv_room (Nat.le_of_ble_eq_true rfl)) dX7_winterOf_20 ⟨(Nat.le_of_ble_eq_true rfl), (Nat.le_of_ble_eq_true rfl)⟩) (fun r_41 L_37 f_38 H_39 locs hp_40 hw => ?_)
  obtain ⟨hWF, hq_42, kp_43⟩ := hp_40
  have aq_44 := ari_kp (kp_f kp_43 t_9 (by omega) (by simp <;> omega) (fun q => absurd q (by decide))) a
  have aq_45 := ari_kp (kp_f kp_43 t_10 (by omega) (by simp <;> omega) (fun q => absurd q (by decide))) a
  have hRP := hRP.trans hq_42
  have hKP := hKP.trans kp_43 (by decide) (by decide)
  have hr_26 := kp_at kp_43 hWF Th (by decide) (by decide) (by decide) hr_26
  have br_41 := wf_free r_41
  refine lv_istore (lv' := [(6, .int r_41), (5, .int r_31), (4, .int r_5), (0, .ref h), (1, .ref o), (2, .ref q), (3, .int a)]) G0.1 G0.2.1 dX7_winterOf_23 hl (by decide) rfl (fun ls hl => ?_)
  refine lv_bipush (v := 20) G0.1 G0.2.1 dX7_winterOf_25 (by decide) ?_
  refine lv_aload_n G0.1 G0.2.1 dX7_winterOf_27 rfl (lv_at hl 4 rfl) ?_
  obtain ⟨r_46, y_47, v_48, hr_51, ty_49, b_50⟩ := wg_2 hWF To
  refine py_get (C := RX2) (T := TX2) (N := 12) (k := 0) (v := .ref (G.2 o 0)) G0 hw in_X7_winterOf_X2 rfl hr_51 (by decide) (by decide +kernel) rfl dX7_winterOf_28 ?_
  refine lv_iload_n G0.1 G0.2.1 dX7_winterOf_31 rfl (lv_at hl 6 rfl) ?_
  obtain ⟨g_52, ha_53, hi_54⟩ := wf_arr (n := 10) (lo := 0) (hi := 20) hWF t_9 (by omega) (wf_own0 E G _ o)
  have rg_55 : vp_in a 10 := ti_in (by omega) (by omega)
  refine py_iald G0 hw ha_53 rg_55 dX7_winterOf_32 ?_
  refine lv_topi (fun x_56 ex_56 => ?_)
  have bx_56 := ti_at hi_54 rg_55 ex_56
  have qx_56 := ari_ld ha_53 ex_56
  refine lv_iload G0.1 G0.2.1 dX7_winterOf_33 (lv_at hl 1 rfl) ?_
  refine lv_isub G0.1 G0.2.1 dX7_winterOf_35 ?_
  refine lv_topi (fun x_57 ex_57 => ?_)
  first | have tx_57 := ti_sub ex_57 (by omega) (by omega) | skip
  refine lv_iload G0.1 G0.2.1 dX7_winterOf_36 (lv_at hl 2 rfl) ?_
  refine lv_iadd G0.1 G0.2.1 dX7_winterOf_38 ?_
  refine lv_topi (fun x_58 ex_58 => ?_)
  first | have tx_58 := ti_add ex_58 (by omega) (by omega) | skip
  refine va_mmin G0.1 G0.2.1 (by rw [G0.2.2.1, hl.1]) G0.2.2.2.1 (G0.2.2.2.2 (Cond.methodLink RX7 70 Lib.Math.min.name) (by decide +kernel)) (G0.2.2.2.2 (Cond.static Lib.Math.min.name) (by decide +kernel)) (G0.2.2.2.2 (Cond.initialized "java/lang/Math") (by decide +kernel)) (G0.2.2.2.2 (Cond.code Lib.Math.min.name Lib.Math.min.code 2 (some .int)) (by decide +kernel)) (Nat.le_of_ble_eq_true rfl) (Nat.le_of_ble_eq_true rfl) (Nat.le_of_ble_eq_true rfl) (Nat.le_of_ble_eq_true rfl) dX7_winterOf_39 ?_
  refine lv_topi (fun x_59 ex_59 => ?_)
  have tx_59 := ti_min ex_59
  refine lv_istore (lv' := [(7, .int x_59), (6, .int r_41), (5, .int r_31), (4, .int r_5), (0, .ref h), (1, .ref o), (2, .ref q), (3, .int a)]) G0.1 G0.2.1 dX7_winterOf_42 hl (by decide) rfl (fun ls hl => ?_)
  refine lv_aload_n G0.1 G0.2.1 dX7_winterOf_44 rfl (lv_at hl 5 rfl) ?_
  refine py_get (C := RX2) (T := TX2) (N := 12) (k := 4) (v := .ref (G.2 o 4)) G0 hw in_X7_winterOf_X2 rfl hr_51 (by decide) (by decide +kernel) rfl dX7_winterOf_45 ?_
  refine lv_iload_n G0.1 G0.2.1 dX7_winterOf_48 rfl (lv_at hl 7 rfl) ?_
  refine lv_dup2_11 G0.1 G0.2.1 dX7_winterOf_49 rfl rfl ?_
  obtain ⟨g_60, ha_61, hi_62⟩ := wf_arr (n := 10) (lo := (-2147483648)) (hi := 2147483647) hWF t_13 (by decide) (fun _ => rfl)
  have rg_63 : vp_in a 10 := ti_in (by omega) (by omega)
  refine py_iald G0 hw ha_61 rg_63 dX7_winterOf_50 ?_
  refine lv_topi (fun x_64 ex_64 => ?_)
  have bx_64 := wf_free x_64
  have qx_64 := ari_ld ha_61 ex_64
  refine lv_iload G0.1 G0.2.1 dX7_winterOf_51 (lv_at hl 3 rfl) ?_
  refine lv_iadd G0.1 G0.2.1 dX7_winterOf_53 ?_
  refine lv_topi (fun x_65 ex_65 => ?_)
  first | have tx_65 := ti_add ex_65 (by omega) (by omega) | skip
  have rg_66 : vp_in a 10 := ti_in (by omega) (by omega)
  refine py_iast G0 hw ha_61 rg_66 dX7_winterOf_54 (fun f_67 H_68 locs h_69 x_70 hw => ?_)
  have aq_71 := ari_kp (x_70 _ (hWF _ (by rw [t_9]; omega)).1 (wf_ne t_9 t_13 (by omega))).2 a
  have aq_72 := ari_kp (x_70 _ (hWF _ (by rw [t_10]; omega)).1 (wf_ne t_10 t_13 (by omega))).2 a
  have hKP := hKP.upd hWF x_70 t_13 (Or.inl (by decide))
  have hRP := hRP.trans (rp_upd hG hWF x_70 ha_61.2 h_69.2 (rp_code hG t_13 (by decide)) rfl)
  have hi_73 := wf_inu (k := (a : Int32).toNatClampNeg) (x := x_65) hi_62 (wf_free x_65).1 (wf_free x_65).2
  have hWF := wf_upd hWF h_69 x_70 (by rw [t_13]; exact ⟨_, rfl, hi_73⟩)
  have hr_26 := hr_26.ext x_70 (py_ne_arr hr_26 ha_61)
  have hr_51 := hr_51.ext x_70 (py_ne_arr hr_51 ha_61)
  refine lv_aload_n G0.1 G0.2.1 dX7_winterOf_55 rfl (lv_at hl 5 rfl) ?_
  refine py_get (C := RX2) (T := TX2) (N := 12) (k := 5) (v := .ref (G.2 o 5)) G0 hw in_X7_winterOf_X2 rfl hr_51 (by decide) (by decide +kernel) rfl dX7_winterOf_56 ?_
  refine lv_iload_n G0.1 G0.2.1 dX7_winterOf_59 rfl (lv_at hl 7 rfl) ?_
  refine lv_dup2_11 G0.1 G0.2.1 dX7_winterOf_60 rfl rfl ?_
  obtain ⟨g_74, ha_75, hi_76⟩ := wf_arr (n := 10) (lo := (-2147483648)) (hi := 2147483647) hWF t_14 (by decide) (fun _ => rfl)
  have rg_77 : vp_in a 10 := ti_in (by omega) (by omega)
  refine py_iald G0 hw ha_75 rg_77 dX7_winterOf_61 ?_
  refine lv_topi (fun x_78 ex_78 => ?_)
  have bx_78 := wf_free x_78
  have qx_78 := ari_ld ha_75 ex_78
  refine lv_iload G0.1 G0.2.1 dX7_winterOf_62 (lv_at hl 2 rfl) ?_
  refine lv_iadd G0.1 G0.2.1 dX7_winterOf_64 ?_
  refine lv_topi (fun x_79 ex_79 => ?_)
  first | have tx_79 := ti_add ex_79 (by omega) (by omega) | skip
  have rg_80 : vp_in a 10 := ti_in (by omega) (by omega)
  refine py_iast G0 hw ha_75 rg_80 dX7_winterOf_65 (fun f_81 H_82 locs h_83 x_84 hw => ?_)
  have aq_85 := ari_kp (x_84 _ (hWF _ (by rw [t_9]; omega)).1 (wf_ne t_9 t_14 (by omega))).2 a
  have aq_86 := ari_kp (x_84 _ (hWF _ (by rw [t_10]; omega)).1 (wf_ne t_10 t_14 (by omega))).2 a
  have hKP := hKP.upd hWF x_84 t_14 (Or.inl (by decide))
  have hRP := hRP.trans (rp_upd hG hWF x_84 ha_75.2 h_83.2 (rp_code hG t_14 (by decide)) rfl)
  have hi_87 := wf_inu (k := (a : Int32).toNatClampNeg) (x := x_79) hi_76 (wf_free x_79).1 (wf_free x_79).2
  have hWF := wf_upd hWF h_83 x_84 (by rw [t_14]; exact ⟨_, rfl, hi_87⟩)
  have hr_26 := hr_26.ext x_84 (py_ne_arr hr_26 ha_75)
  have hr_51 := hr_51.ext x_84 (py_ne_arr hr_51 ha_75)
  refine lv_aload_n G0.1 G0.2.1 dX7_winterOf_66 rfl (lv_at hl 5 rfl) ?_
  refine py_get (C := RX2) (T := TX2) (N := 12) (k := 0) (v := .ref (G.2 o 0)) G0 hw in_X7_winterOf_X2 rfl hr_51 (by decide) (by decide +kernel) rfl dX7_winterOf_67 ?_
  refine lv_iload_n G0.1 G0.2.1 dX7_winterOf_70 rfl (lv_at hl 7 rfl) ?_
  refine lv_iload G0.1 G0.2.1 dX7_winterOf_71 (lv_at hl 0 rfl) ?_
  obtain ⟨g_88, ha_89, hi_90⟩ := wf_arr (n := 10) (lo := 0) (hi := 20) hWF t_9 (by omega) (wf_own0 E G _ o)
  have rg_91 : vp_in a 10 := ti_in (by omega) (by omega)
  refine py_iast G0 hw ha_89 rg_91 dX7_winterOf_73 (fun f_92 H_93 locs h_94 x_95 hw => ?_)
  have aq_96 := ari_kp (x_95 _ (hWF _ (by rw [t_10]; omega)).1 (wf_ne t_10 t_9 (by omega))).2 a
  have hKP := hKP.upd hWF x_95 t_9 (Or.inr ⟨rfl, by omega⟩)
  have hRP := hRP.trans (rp_heads hG hWF To x_95 ha_89 h_94 (by first | exact Or.inl (by omega) | exact Or.inr (fun gl q => by have hz := ari_row q a; omega)))
  have hh0 := h_94
  have hi_97 := wf_inu (k := (a : Int32).toNatClampNeg) (x := x_59) hi_90 (by omega) (by omega)
  have hWF := wf_upd hWF h_94 x_95 (by rw [t_9, wf_own0]; exact ⟨_, rfl, hi_97⟩)
  have hr_26 := hr_26.ext x_95 (py_ne_arr hr_26 ha_89)
  have hr_51 := hr_51.ext x_95 (py_ne_arr hr_51 ha_89)
  refine lv_iload G0.1 G0.2.1 dX7_winterOf_74 (lv_at hl 0 rfl) ?_
  refine lv_if_ne (tgt := 85) G0.1 G0.2.1 dX7_winterOf_76 (by decide) (fun c_98 => ?_) (fun c_98 => ?_)
  · skip
    have tc_98 := ti_ne c_98
    refine lv_aload_n G0.1 G0.2.1 dX7_winterOf_85 rfl (lv_at hl 4 rfl) ?_
    refine py_get (C := RX7) (T := TX7) (N := 5) (k := 1) (v := .ref (G.2 h 1)) G0 hw in_X7_winterOf_X7 rfl hr_26 (by decide) (by decide +kernel) rfl dX7_winterOf_86 ?_
    refine lv_iconst (v := 0) G0.1 G0.2.1 dX7_winterOf_89 (by decide) ?_
    refine lv_iload G0.1 G0.2.1 dX7_winterOf_90 (lv_at hl 1 rfl) ?_
    obtain ⟨g_99, ha_100, hi_101⟩ := wf_arr (n := 6) (lo := (-2147483648)) (hi := 2147483647) hWF t_21 (by decide) (fun _ => rfl)
    have rg_102 : vp_in 0 6 := ti_in (by omega) (by omega)
    refine py_iast G0 hw ha_100 rg_102 dX7_winterOf_92 (fun f_103 H_104 locs h_105 x_106 hw => ?_)
    have aq_107 := ari_kp (x_106 _ (hWF _ (by rw [t_9]; omega)).1 (wf_ne t_9 t_21 (by omega))).2 a
    have aq_108 := ari_kp (x_106 _ (hWF _ (by rw [t_10]; omega)).1 (wf_ne t_10 t_21 (by omega))).2 a
    have hKP := hKP.upd hWF x_106 t_21 (Or.inl (by decide))
    have hRP := hRP.trans (rp_upd hG hWF x_106 ha_100.2 h_105.2 (rp_code hG t_21 (by decide)) rfl)
    have hi_109 := wf_inu (k := (0 : Int32).toNatClampNeg) (x := r_41) hi_101 (wf_free r_41).1 (wf_free r_41).2
    have hWF := wf_upd hWF h_105 x_106 (by rw [t_21]; exact ⟨_, rfl, hi_109⟩)
    have hr_26 := hr_26.ext x_106 (py_ne_arr hr_26 ha_100)
    have hr_51 := hr_51.ext x_106 (py_ne_arr hr_51 ha_100)
    refine lv_aload_n G0.1 G0.2.1 dX7_winterOf_93 rfl (lv_at hl 4 rfl) ?_
    refine py_get (C := RX7) (T := TX7) (N := 5) (k := 1) (v := .ref (G.2 h 1)) G0 hw in_X7_winterOf_X7 rfl hr_26 (by decide) (by decide +kernel) rfl dX7_winterOf_94 ?_
    refine lv_iconst (v := 1) G0.1 G0.2.1 dX7_winterOf_97 (by decide) ?_
    refine lv_iload G0.1 G0.2.1 dX7_winterOf_98 (lv_at hl 2 rfl) ?_
    have rg_110 : vp_in 1 6 := ti_in (by omega) (by omega)
    refine py_iast G0 hw h_105 rg_110 dX7_winterOf_100 (fun f_111 H_112 locs h_113 x_114 hw => ?_)
    have aq_115 := ari_kp (x_114 _ (hWF _ (by rw [t_9]; omega)).1 (wf_ne t_9 t_21 (by omega))).2 a
    have aq_116 := ari_kp (x_114 _ (hWF _ (by rw [t_10]; omega)).1 (wf_ne t_10 t_21 (by omega))).2 a
    have hKP := hKP.upd hWF x_114 t_21 (Or.inl (by decide))
    have hRP := hRP.trans (rp_upd hG hWF x_114 h_105.2 h_113.2 (rp_code hG t_21 (by decide)) rfl)
    have hi_117 := wf_inu (k := (1 : Int32).toNatClampNeg) (x := r_31) hi_109 (wf_free r_31).1 (wf_free r_31).2
    have hWF := wf_upd hWF h_113 x_114 (by rw [t_21]; exact ⟨_, rfl, hi_117⟩)
    have hr_26 := hr_26.ext x_114 (py_ne_arr hr_26 h_105)
    have hr_51 := hr_51.ext x_114 (py_ne_arr hr_51 h_105)
    refine lv_aload_n G0.1 G0.2.1 dX7_winterOf_101 rfl (lv_at hl 4 rfl) ?_
    refine py_get (C := RX7) (T := TX7) (N := 5) (k := 1) (v := .ref (G.2 h 1)) G0 hw in_X7_winterOf_X7 rfl hr_26 (by decide) (by decide +kernel) rfl dX7_winterOf_102 ?_
    refine lv_iconst (v := 2) G0.1 G0.2.1 dX7_winterOf_105 (by decide) ?_
    refine lv_iload G0.1 G0.2.1 dX7_winterOf_106 (lv_at hl 0 rfl) ?_
    have rg_118 : vp_in 2 6 := ti_in (by omega) (by omega)
    refine py_iast G0 hw h_113 rg_118 dX7_winterOf_108 (fun f_119 H_120 locs h_121 x_122 hw => ?_)
    have aq_123 := ari_kp (x_122 _ (hWF _ (by rw [t_9]; omega)).1 (wf_ne t_9 t_21 (by omega))).2 a
    have aq_124 := ari_kp (x_122 _ (hWF _ (by rw [t_10]; omega)).1 (wf_ne t_10 t_21 (by omega))).2 a
    have hKP := hKP.upd hWF x_122 t_21 (Or.inl (by decide))
    have hRP := hRP.trans (rp_upd hG hWF x_122 h_113.2 h_121.2 (rp_code hG t_21 (by decide)) rfl)
    have hi_125 := wf_inu (k := (2 : Int32).toNatClampNeg) (x := x_59) hi_117 (wf_free x_59).1 (wf_free x_59).2
    have hWF := wf_upd hWF h_121 x_122 (by rw [t_21]; exact ⟨_, rfl, hi_125⟩)
    have hr_26 := hr_26.ext x_122 (py_ne_arr hr_26 h_113)
    have hr_51 := hr_51.ext x_122 (py_ne_arr hr_51 h_113)
    refine lv_aload_n G0.1 G0.2.1 dX7_winterOf_109 rfl (lv_at hl 4 rfl) ?_
    refine py_get (C := RX7) (T := TX7) (N := 5) (k := 1) (v := .ref (G.2 h 1)) G0 hw in_X7_winterOf_X7 rfl hr_26 (by decide) (by decide +kernel) rfl dX7_winterOf_110 ?_
    refine lv_iconst (v := 3) G0.1 G0.2.1 dX7_winterOf_113 (by decide) ?_
    refine lv_aload_n G0.1 G0.2.1 dX7_winterOf_114 rfl (lv_at hl 5 rfl) ?_
    refine py_get (C := RX2) (T := TX2) (N := 12) (k := 1) (v := .ref (G.2 o 1)) G0 hw in_X7_winterOf_X2 rfl hr_51 (by decide) (by decide +kernel) rfl dX7_winterOf_115 ?_
    refine lv_iload_n G0.1 G0.2.1 dX7_winterOf_118 rfl (lv_at hl 7 rfl) ?_
    obtain ⟨g_126, ha_127, hi_128⟩ := wf_arr (n := 10) (lo := (-1)) (hi := 7) hWF t_10 (by omega) (wf_own1 E G _ o)
    have rg_129 : vp_in a 10 := ti_in (by omega) (by omega)
    refine py_iald G0 hw ha_127 rg_129 dX7_winterOf_119 ?_
    refine lv_topi (fun x_130 ex_130 => ?_)
    have bx_130 := ti_at hi_128 rg_129 ex_130
    have qx_130 := ari_ld ha_127 ex_130
    have rg_131 : vp_in 3 6 := ti_in (by omega) (by omega)
    refine py_iast G0 hw h_121 rg_131 dX7_winterOf_120 (fun f_132 H_133 locs h_134 x_135 hw => ?_)
    have aq_136 := ari_kp (x_135 _ (hWF _ (by rw [t_9]; omega)).1 (wf_ne t_9 t_21 (by omega))).2 a
    have aq_137 := ari_kp (x_135 _ (hWF _ (by rw [t_10]; omega)).1 (wf_ne t_10 t_21 (by omega))).2 a
    have hKP := hKP.upd hWF x_135 t_21 (Or.inl (by decide))
    have hRP := hRP.trans (rp_upd hG hWF x_135 h_121.2 h_134.2 (rp_code hG t_21 (by decide)) rfl)
    have hi_138 := wf_inu (k := (3 : Int32).toNatClampNeg) (x := x_130) hi_125 (wf_free x_130).1 (wf_free x_130).2
    have hWF := wf_upd hWF h_134 x_135 (by rw [t_21]; exact ⟨_, rfl, hi_138⟩)
    have hr_26 := hr_26.ext x_135 (py_ne_arr hr_26 h_121)
    have hr_51 := hr_51.ext x_135 (py_ne_arr hr_51 h_121)
    refine lv_aload_n G0.1 G0.2.1 dX7_winterOf_121 rfl (lv_at hl 4 rfl) ?_
    refine py_get (C := RX7) (T := TX7) (N := 5) (k := 1) (v := .ref (G.2 h 1)) G0 hw in_X7_winterOf_X7 rfl hr_26 (by decide) (by decide +kernel) rfl dX7_winterOf_122 ?_
    refine lv_iconst (v := 4) G0.1 G0.2.1 dX7_winterOf_125 (by decide) ?_
    refine lv_aload_n G0.1 G0.2.1 dX7_winterOf_126 rfl (lv_at hl 5 rfl) ?_
    refine py_get (C := RX2) (T := TX2) (N := 12) (k := 3) (v := .ref (G.2 o 3)) G0 hw in_X7_winterOf_X2 rfl hr_51 (by decide) (by decide +kernel) rfl dX7_winterOf_127 ?_
    refine lv_iload_n G0.1 G0.2.1 dX7_winterOf_130 rfl (lv_at hl 7 rfl) ?_
    obtain ⟨g_139, ha_140, hi_141⟩ := wf_arr (n := 10) (lo := (-2147483648)) (hi := 2147483647) hWF t_12 (by decide) (fun _ => rfl)
    have rg_142 : vp_in a 10 := ti_in (by omega) (by omega)
    refine py_iald G0 hw ha_140 rg_142 dX7_winterOf_131 ?_
    refine lv_topi (fun x_143 ex_143 => ?_)
    have bx_143 := wf_free x_143
    have qx_143 := ari_ld ha_140 ex_143
    have rg_144 : vp_in 4 6 := ti_in (by omega) (by omega)
    refine py_iast G0 hw h_134 rg_144 dX7_winterOf_132 (fun f_145 H_146 locs h_147 x_148 hw => ?_)
    have aq_149 := ari_kp (x_148 _ (hWF _ (by rw [t_9]; omega)).1 (wf_ne t_9 t_21 (by omega))).2 a
    have aq_150 := ari_kp (x_148 _ (hWF _ (by rw [t_10]; omega)).1 (wf_ne t_10 t_21 (by omega))).2 a
    have hKP := hKP.upd hWF x_148 t_21 (Or.inl (by decide))
    have hRP := hRP.trans (rp_upd hG hWF x_148 h_134.2 h_147.2 (rp_code hG t_21 (by decide)) rfl)
    have hi_151 := wf_inu (k := (4 : Int32).toNatClampNeg) (x := x_143) hi_138 (wf_free x_143).1 (wf_free x_143).2
    have hWF := wf_upd hWF h_147 x_148 (by rw [t_21]; exact ⟨_, rfl, hi_151⟩)
    have hr_26 := hr_26.ext x_148 (py_ne_arr hr_26 h_134)
    have hr_51 := hr_51.ext x_148 (py_ne_arr hr_51 h_134)
    have ha_140 := ha_140.ext x_148 (wf_ne t_12 t_21 (by decide))
    refine lv_aload_n G0.1 G0.2.1 dX7_winterOf_133 rfl (lv_at hl 4 rfl) ?_
    refine py_get (C := RX7) (T := TX7) (N := 5) (k := 1) (v := .ref (G.2 h 1)) G0 hw in_X7_winterOf_X7 rfl hr_26 (by decide) (by decide +kernel) rfl dX7_winterOf_134 ?_
    refine lv_iconst (v := 5) G0.1 G0.2.1 dX7_winterOf_137 (by decide) ?_
    refine lv_aload_n G0.1 G0.2.1 dX7_winterOf_138 rfl (lv_at hl 5 rfl) ?_
    refine py_get (C := RX2) (T := TX2) (N := 12) (k := 11) (v := .int v_48) G0 hw in_X7_winterOf_X2 rfl hr_51 (by decide) (by decide +kernel) rfl dX7_winterOf_139 ?_
    refine lv_iconst (v := 1) G0.1 G0.2.1 dX7_winterOf_142 (by decide) ?_
    refine lv_iadd G0.1 G0.2.1 dX7_winterOf_143 ?_
    refine lv_topi (fun x_152 ex_152 => ?_)
    first | have tx_152 := ti_add ex_152 (by omega) (by omega) | skip
    have rg_153 : vp_in 5 6 := ti_in (by omega) (by omega)
    refine py_iast G0 hw h_147 rg_153 dX7_winterOf_144 (fun f_154 H_155 locs h_156 x_157 hw => ?_)
    have aq_158 := ari_kp (x_157 _ (hWF _ (by rw [t_9]; omega)).1 (wf_ne t_9 t_21 (by omega))).2 a
    have aq_159 := ari_kp (x_157 _ (hWF _ (by rw [t_10]; omega)).1 (wf_ne t_10 t_21 (by omega))).2 a
    have hKP := hKP.upd hWF x_157 t_21 (Or.inl (by decide))
    have hRP := hRP.trans (rp_upd hG hWF x_157 h_147.2 h_156.2 (rp_code hG t_21 (by decide)) rfl)
    have hi_160 := wf_inu (k := (5 : Int32).toNatClampNeg) (x := x_152) hi_151 (wf_free x_152).1 (wf_free x_152).2
    have hWF := wf_upd hWF h_156 x_157 (by rw [t_21]; exact ⟨_, rfl, hi_160⟩)
    have hr_26 := hr_26.ext x_157 (py_ne_arr hr_26 h_147)
    have hr_51 := hr_51.ext x_157 (py_ne_arr hr_51 h_147)
    have ha_140 := ha_140.ext x_157 (wf_ne t_12 t_21 (by decide))
    refine lv_aload_n G0.1 G0.2.1 dX7_winterOf_145 rfl (lv_at hl 5 rfl) ?_
    refine py_get (C := RX2) (T := TX2) (N := 12) (k := 3) (v := .ref (G.2 o 3)) G0 hw in_X7_winterOf_X2 rfl hr_51 (by decide) (by decide +kernel) rfl dX7_winterOf_146 ?_
    refine lv_iload_n G0.1 G0.2.1 dX7_winterOf_149 rfl (lv_at hl 7 rfl) ?_
    refine lv_aload_n G0.1 G0.2.1 dX7_winterOf_150 rfl (lv_at hl 5 rfl) ?_
    refine py_get (C := RX2) (T := TX2) (N := 12) (k := 3) (v := .ref (G.2 o 3)) G0 hw in_X7_winterOf_X2 rfl hr_51 (by decide) (by decide +kernel) rfl dX7_winterOf_151 ?_
    refine lv_iload_n G0.1 G0.2.1 dX7_winterOf_154 rfl (lv_at hl 7 rfl) ?_
    have rg_161 : vp_in a 10 := ti_in (by omega) (by omega)
    refine py_iald G0 hw ha_140 rg_161 dX7_winterOf_155 ?_
    refine lv_topi (fun x_162 ex_162 => ?_)
    have bx_162 := wf_free x_162
    have qx_162 := ari_ld ha_140 ex_162
    refine lv_aload_n G0.1 G0.2.1 dX7_winterOf_156 rfl (lv_at hl 6 rfl) ?_
    refine lv_aload_n G0.1 G0.2.1 dX7_winterOf_157 rfl (lv_at hl 4 rfl) ?_
    refine py_get (C := RX7) (T := TX7) (N := 5) (k := 1) (v := .ref (G.2 h 1)) G0 hw in_X7_winterOf_X7 rfl hr_26 (by decide) (by decide +kernel) rfl dX7_winterOf_158 ?_
    obtain ⟨t_163, t_164⟩ := wt_3 hG Tq
    obtain ⟨v_165, hr_167, b_166⟩ := wg_3 hWF Tq
    refine py_calli hw (va_runV (As := [.ref (G.2 h 1)]) (rest := [.int x_162, .int a, .ref (G.2 o 3)]) G0 (c_X3_worth l E G L_37 f_154 H_155.size q (G.2 h 1) hG hWF Tq t_21) (cwV 1 G0.2.2.2.2 g_X7_winterOf_X3_worth_92 rfl rfl rfl (by decide +kernel) ⟨(Nat.le_of_ble_eq_true rfl), (Nat.le_of_ble_eq_true rfl)⟩) (py_preV hw (C := RX3) (T := TX3) (N := 3) rfl hr_167) rfl rfl hl.1 rfl (lv_room (Nat.le_of_ble_eq_true rfl)) dX7_winterOf_161 ⟨(Nat.le_of_ble_eq_true rfl), (Nat.le_of_ble_eq_true rfl)⟩) (fun r_172 L_168 f_169 H_170 locs hp_171 hw => ?_)
    obtain ⟨hWF, hq_173, kp_174⟩ := hp_171
    have aq_175 := ari_kp (kp_f kp_174 t_9 (by omega) (by simp <;> omega) (fun q => absurd q (by decide))) a
    have aq_176 := ari_kp (kp_f kp_174 t_10 (by omega) (by simp <;> omega) (fun q => absurd q (by decide))) a
    have hRP := hRP.trans hq_173
    have hKP := hKP.trans kp_174 (by decide) (by decide)
    have hr_26 := kp_at kp_174 hWF Th (by decide) (by decide) (by decide) hr_26
    have hr_51 := kp_at kp_174 hWF To (by decide) (by decide) (by decide) hr_51
    have hr_167 := kp_at kp_174 hWF Tq (by decide) (by decide) (by decide) hr_167
    have h_156 := kp_at kp_174 hWF t_21 (by decide) (by decide) (by decide) h_156
    have ha_140 := kp_at kp_174 hWF t_12 (by decide) (by decide) (by decide) ha_140
    have br_172 := wf_free r_172
    refine lv_iadd G0.1 G0.2.1 dX7_winterOf_164 ?_
    refine lv_topi (fun x_177 ex_177 => ?_)
    first | have tx_177 := ti_add ex_177 (by omega) (by omega) | skip
    refine lv_i2l (v := x_177.toInt64) G0.1 G0.2.1 dX7_winterOf_165 rfl ?_
    refine lv_bipush (v := 9) G0.1 G0.2.1 dX7_winterOf_166 (by decide) ?_
    refine py_calli hw (va_runS (As := [.long (x_177.toInt64), .int 9]) (rest := [.int a, .ref (G.2 o 3)]) G0 (c_X3_held l E G L_168 f_169 H_170.size (x_177.toInt64) 9 hG hWF) (va_cwS 2 G0.2.2.2.2 g_X7_winterOf_X3_held_96 rfl rfl rfl (by decide +kernel) ⟨(Nat.le_of_ble_eq_true rfl), (Nat.le_of_ble_eq_true rfl)⟩) (py_preS hw) rfl rfl hl.1 rfl (lv_room (Nat.le_of_ble_eq_true rfl)) dX7_winterOf_168 ⟨(Nat.le_of_ble_eq_true rfl), (Nat.le_of_ble_eq_true rfl)⟩) (fun r_182 L_178 f_179 H_180 locs hp_181 hw => ?_)
    obtain ⟨rfl, rfl⟩ := hp_181
    have br_182 := wf_free r_182
    have rg_183 : vp_in a 10 := ti_in (by omega) (by omega)
    refine py_iast G0 hw ha_140 rg_183 dX7_winterOf_171 (fun f_184 H_185 locs h_186 x_187 hw => ?_)
    have aq_188 := ari_kp (x_187 _ (hWF _ (by rw [t_9]; omega)).1 (wf_ne t_9 t_12 (by omega))).2 a
    have aq_189 := ari_kp (x_187 _ (hWF _ (by rw [t_10]; omega)).1 (wf_ne t_10 t_12 (by omega))).2 a
    have hKP := hKP.upd hWF x_187 t_12 (Or.inl (by decide))
    have hRP := hRP.trans (rp_upd hG hWF x_187 ha_140.2 h_186.2 (rp_code hG t_12 (by decide)) rfl)
    have hi_190 := wf_inu (k := (a : Int32).toNatClampNeg) (x := r_182) hi_141 (wf_free r_182).1 (wf_free r_182).2
    have hWF := wf_upd hWF h_186 x_187 (by rw [t_12]; exact ⟨_, rfl, hi_190⟩)
    have hr_26 := hr_26.ext x_187 (py_ne_arr hr_26 ha_140)
    have hr_51 := hr_51.ext x_187 (py_ne_arr hr_51 ha_140)
    have hr_167 := hr_167.ext x_187 (py_ne_arr hr_167 ha_140)
    have h_156 := h_156.ext x_187 (wf_ne t_21 t_12 (by decide))
    exact py_vret G0 hr hlk hw ⟨hWF, hRP, hKP⟩ dX7_winterOf_172
  · skip
    have tc_98 := ti_eq c_98
    refine lv_aload_n G0.1 G0.2.1 dX7_winterOf_79 rfl (lv_at hl 5 rfl) ?_
    refine lv_iload_n G0.1 G0.2.1 dX7_winterOf_80 rfl (lv_at hl 7 rfl) ?_
    refine py_callv hw (va_runV (As := [.int a]) (rest := []) G0 (c_X2_empty l E G L_37 f_92 H_93.size o a hG hWF To ⟨by omega, by omega⟩) (cwV 1 G0.2.2.2.2 g_X7_winterOf_X2_empty_82 rfl rfl rfl (by decide +kernel) ⟨(Nat.le_of_ble_eq_true rfl), (Nat.le_of_ble_eq_true rfl)⟩) (py_preV hw (C := RX2) (T := TX2) (N := 12) rfl hr_51) rfl rfl hl.1 rfl (lv_room (Nat.le_of_ble_eq_true rfl)) dX7_winterOf_81 ⟨(Nat.le_of_ble_eq_true rfl), (Nat.le_of_ble_eq_true rfl)⟩) (fun L_191 f_192 H_193 locs hp_194 hw => ?_)
    obtain ⟨hWF, hq_196, kp_197⟩ := hp_194
    have hRP := hRP.trans hq_196
    have hKP := hKP.trans kp_197 (by decide) (by decide)
    have hr_26 := kp_at kp_197 hWF Th (by decide) (by decide) (by decide) hr_26
    have hr_51 := kp_at kp_197 hWF To (by decide) (by decide) (by decide) hr_51
    exact py_vret G0 hr hlk hw ⟨hWF, hRP, hKP⟩ dX7_winterOf_84

def w_X7_winter : List Cond := .code yX7_winter cX7_winter 5 none :: ([Cond.fieldLink RX7 33 "HeadYear$Folk" "valley" "LHeadYear$Valley;", Cond.fieldLink RX7 39 "HeadYear$Valley" "levels" "I", Cond.fieldLink RX7 46 "HeadYear$Valley" "families" "I", Cond.fieldLink RX7 56 "HeadYear$Folk" "years" "I", Cond.fieldLink RX7 49 "HeadYear$Folk" "heads" "[I", Cond.methodLink RX7 52 yX7_winterOf, Cond.instanceMethod yX7_winterOf, Cond.selects RX7 yX7_winterOf yX7_winterOf, Cond.initialized RX7, Cond.fieldLink RX7 11 "HeadYear$Seasons" "lacks" "[I", Cond.methodLink RX7 42 yX2_lackAt, Cond.instanceMethod yX2_lackAt, Cond.selects RX2 yX2_lackAt yX2_lackAt, Cond.initialized RX2] ++ (u_ws RX2 TX2 12 ++ (u_ws RX9 TX9 10 ++ (u_ws RX7 TX7 5 ++ (w_X7_winterOf ++ (w_X2_lackAt ++ ([])))))))
theorem in_X7_winter_X2 : ∀ w ∈ u_ws RX2 TX2 12, w ∈ w_X7_winter := fun _ h => List.mem_cons_of_mem _ (List.mem_append_right _ (List.mem_append_left _ h))
theorem in_X7_winter_X9 : ∀ w ∈ u_ws RX9 TX9 10, w ∈ w_X7_winter := fun _ h => List.mem_cons_of_mem _ (List.mem_append_right _ (List.mem_append_right _ (List.mem_append_left _ h)))
theorem in_X7_winter_X7 : ∀ w ∈ u_ws RX7 TX7 5, w ∈ w_X7_winter := fun _ h => List.mem_cons_of_mem _ (List.mem_append_right _ (List.mem_append_right _ (List.mem_append_right _ (List.mem_append_left _ h))))
theorem gg_X7_winter_X7_winterOf : GoodIn w_X7_winter w_X7_winterOf := goodIn_sub (fun _ h => List.mem_cons_of_mem _ (List.mem_append_right _ (List.mem_append_right _ (List.mem_append_right _ (List.mem_append_right _ (List.mem_append_left _ h)))))) (by decide +kernel)
theorem gg_X7_winter_X2_lackAt : GoodIn w_X7_winter w_X2_lackAt := goodIn_sub (fun _ h => List.mem_cons_of_mem _ (List.mem_append_right _ (List.mem_append_right _ (List.mem_append_right _ (List.mem_append_right _ (List.mem_append_right _ (List.mem_append_left _ h))))))) (by decide +kernel)
theorem g_X7_winter_X2_lackAt_42 : GoodIn w_X7_winter (wsV RX7 42 RX2 yX2_lackAt w_X2_lackAt) := goodIn_app (goodIn_of _ (by decide +kernel)) gg_X7_winter_X2_lackAt
theorem g_X7_winter_X7_winterOf_52 : GoodIn w_X7_winter (wsV RX7 52 RX7 yX7_winterOf w_X7_winterOf) := goodIn_app (goodIn_of _ (by decide +kernel)) gg_X7_winter_X7_winterOf
set_option maxHeartbeats 4000000 in
set_option maxRecDepth 100000 in
theorem c_X7_winter (l : Launch) (E : py_E) (G : wf_G) (L : List Nat) (f : py_F) (sz : Nat) (h : Nat) (o : Nat) (q : Nat) (hG : GT G) (hWF : WF E G L f) (Th : G.1 h = 8) (To : G.1 o = 3) (Tq : G.1 q = 4) (hp0 : fo_y f o ≤ 79) (hq0 : RLV E G f o) : Met l yX7_winter w_X7_winter ({ frames := 3, cells := 0, slots := 0, locals := 76 }) (py_Pc E [.ref h, .ref o, .ref q] L f sz) (py_Qv E L f sz (fun L1 f1 => (fo_v f1 o = fo_v f o ∧ fo_y f1 o = fo_y f o + 1) ∧ WF E G L1 f1 ∧ RPv E G o f f1 ∧ KP G [3, 24, 26, 37, 30, 21, 32] true f f1)) 0 0 (va_A (va_pl L f) sz) := by
  refine Met.ofW (cc := cX7_winter) (maxL := 5) (ret := none) (by decide) rfl ?_
  intro p e s m args below meth c s₁ B hml hv
  obtain ⟨rfl, rfl, hw⟩ := py_start hv
  have G0 : CallFix p m c cX7_winter 5 s _ w_X7_winter RX7 := ⟨B.exec, B.bytes, hml, findClass_of_methodNamed B.named, atoms_spec (ws := w_X7_winter) B.pre⟩
  have hr := B.returns
  have hlk := B.notSynchronized
  have kcm1 : (-1 : Int32).toInt = -1 := rfl
  have kc0 : (0 : Int32).toInt = 0 := rfl
  have kc1 : (1 : Int32).toInt = 1 := rfl
  have hl := lv_entry ([.ref h, .ref o, .ref q]) (n := 5) (Nat.le_of_ble_eq_true rfl)
  rw [lg_entry_eq]
  generalize (lg_sl ([.ref h, .ref o, .ref q]) ++ List.replicate (5 - (lg_sl ([.ref h, .ref o, .ref q])).length) Slot.unset).toArray = ls at hl ⊢
  have hl : lv_has ls 5 [(0, .ref h), (1, .ref o), (2, .ref q)] := hl
  have hRP : RP E G f f := RP.refl
  have hKP : KP G [3, 24, 26, 37, 30, 21, 32] true f f := KP.refl
  refine lv_aload_n G0.1 G0.2.1 dX7_winter_0 rfl (lv_at hl 1 rfl) ?_
  obtain ⟨t_1, t_2, t_3, t_4, t_5, t_6, t_7, t_8, t_9⟩ := wt_2 hG To
  obtain ⟨r_10, y_11, v_12, hr_15, ty_13, b_14⟩ := wg_2 hWF To
  have tq_16 := fo_eq hr_15
  refine py_get (C := RX2) (T := TX2) (N := 12) (k := 9) (v := .ref r_10) G0 hw in_X7_winter_X2 rfl hr_15 (by decide) (by decide +kernel) rfl dX7_winter_1 ?_
  refine lv_astore_n (lv' := [(3, .ref r_10), (0, .ref h), (1, .ref o), (2, .ref q)]) G0.1 G0.2.1 dX7_winter_4 rfl hl (by decide) rfl (fun ls hl => ?_)
  refine lv_iconst (v := 0) G0.1 G0.2.1 dX7_winter_5 (by decide) ?_
  refine lv_istore (lv' := [(4, .int 0), (3, .ref r_10), (0, .ref h), (1, .ref o), (2, .ref q)]) G0.1 G0.2.1 dX7_winter_6 hl (by decide) rfl (fun ls hl => ?_)
  have lo_8 : ∀ n_8 : Nat, ∀ (v_17 : Int32) (L_j8 : List Nat) (f_j8 : py_F) (H_j8 : Heap) (locs : List Loc) (ls : Array Slot), (2147483647 - v_17.toInt).toNat = n_8 → (0 ≤ v_17.toInt ∧ v_17.toInt ≤ 2147483647) → WF E G L_j8 f_j8 → RP E G f f_j8 → KP G [3, 24, 26, 37, 30, 21, 32] true f f_j8 → py_W E (va_A (va_pl L f) s.heap.size) s L_j8 f_j8 H_j8 locs → lv_has ls 5 [(4, .int v_17), (3, .ref r_10), (0, .ref h), (1, .ref o), (2, .ref q)] → W p l e (headSpec w_X7_winter ({ frames := 3, cells := 0, slots := 0, locals := 76 })).room s m ([.ref h, .ref o, .ref q] : List Value).toArray below meth c H_j8 locs 0 0 (MQ below (py_Qv E L f s.heap.size (fun L1 f1 => (fo_v f1 o = fo_v f o ∧ fo_y f1 o = fo_y f o + 1) ∧ WF E G L1 f1 ∧ RPv E G o f f1 ∧ KP G [3, 24, 26, 37, 30, 21, 32] true f f1)) ([.ref h, .ref o, .ref q] : List Value).toArray s 0 0 (va_A (va_pl L f) s.heap.size)) (F0 m 8 ls []) := by
    intro n_8
    induction n_8 using Nat.strongRecOn with
    | _ n_8 ih_8 =>
      intro v_17 L_j8 f_j8 H_j8 locs ls hn_8 bv_17 hWF hRP hKP hw hl
      refine lv_iload G0.1 G0.2.1 dX7_winter_8 (lv_at hl 0 rfl) ?_
      refine lv_aload_n G0.1 G0.2.1 dX7_winter_10 rfl (lv_at hl 1 rfl) ?_
      obtain ⟨t_18, t_19, t_20, t_21, t_22, t_23, t_24, t_25⟩ := wt_9 hG ty_13
      obtain ⟨v_26, v_27, hr_30, b_28, b_29⟩ := wg_9 hWF ty_13
      have tq_31 := va_eq hr_30
      refine py_get (C := RX9) (T := TX9) (N := 10) (k := 8) (v := .int v_26) G0 hw in_X7_winter_X9 rfl hr_30 (by decide) (by decide +kernel) rfl dX7_winter_11 ?_
      refine lv_icmp_ge (tgt := 36) G0.1 G0.2.1 dX7_winter_14 (by decide) (fun c_32 => ?_) (fun c_32 => ?_)
      · skip
        have tc_32 := ti_le c_32
        refine lv_iconst (v := 0) G0.1 G0.2.1 dX7_winter_36 (by decide) ?_
        refine lv_istore (lv' := [(4, .int 0), (3, .ref r_10), (0, .ref h), (1, .ref o), (2, .ref q)]) G0.1 G0.2.1 dX7_winter_37 hl (by decide) rfl (fun ls hl => ?_)
        have lo_39 : ∀ n_39 : Nat, ∀ (v_33 : Int32) (L_j39 : List Nat) (f_j39 : py_F) (H_j39 : Heap) (locs : List Loc) (ls : Array Slot), (2147483647 - v_33.toInt).toNat = n_39 → (0 ≤ v_33.toInt ∧ v_33.toInt ≤ 2147483647) → WF E G L_j39 f_j39 → RP E G f f_j39 → KP G [3, 24, 26, 37, 30, 21, 32] true f f_j39 → py_W E (va_A (va_pl L f) s.heap.size) s L_j39 f_j39 H_j39 locs → lv_has ls 5 [(4, .int v_33), (3, .ref r_10), (0, .ref h), (1, .ref o), (2, .ref q)] → W p l e (headSpec w_X7_winter ({ frames := 3, cells := 0, slots := 0, locals := 76 })).room s m ([.ref h, .ref o, .ref q] : List Value).toArray below meth c H_j39 locs 0 0 (MQ below (py_Qv E L f s.heap.size (fun L1 f1 => (fo_v f1 o = fo_v f o ∧ fo_y f1 o = fo_y f o + 1) ∧ WF E G L1 f1 ∧ RPv E G o f f1 ∧ KP G [3, 24, 26, 37, 30, 21, 32] true f f1)) ([.ref h, .ref o, .ref q] : List Value).toArray s 0 0 (va_A (va_pl L f) s.heap.size)) (F0 m 39 ls []) := by
          intro n_39
          induction n_39 using Nat.strongRecOn with
          | _ n_39 ih_39 =>
            intro v_33 L_j39 f_j39 H_j39 locs ls hn_39 bv_33 hWF hRP hKP hw hl
            refine lv_iload G0.1 G0.2.1 dX7_winter_39 (lv_at hl 0 rfl) ?_
            refine lv_aload_n G0.1 G0.2.1 dX7_winter_41 rfl (lv_at hl 1 rfl) ?_
            obtain ⟨v_34, v_35, hr_38, b_36, b_37⟩ := wg_9 hWF ty_13
            have tq_39 := va_eq hr_38
            refine py_get (C := RX9) (T := TX9) (N := 10) (k := 9) (v := .int v_35) G0 hw in_X7_winter_X9 rfl hr_38 (by decide) (by decide +kernel) rfl dX7_winter_42 ?_
            refine lv_icmp_ge (tgt := 72) G0.1 G0.2.1 dX7_winter_45 (by decide) (fun c_40 => ?_) (fun c_40 => ?_)
            · skip
              have tc_40 := ti_le c_40
              refine lv_aload_n G0.1 G0.2.1 dX7_winter_72 rfl (lv_at hl 3 rfl) ?_
              refine lv_dup G0.1 G0.2.1 dX7_winter_73 rfl ?_
              obtain ⟨r_41, y_42, v_43, hr_46, ty_44, b_45⟩ := wg_2 hWF To
              have tq_47 := fo_eq hr_46
              have tq_48 := fv_now hRP hKP (by decide) hWF To
              refine py_get (C := RX2) (T := TX2) (N := 12) (k := 11) (v := .int v_43) G0 hw in_X7_winter_X2 rfl hr_46 (by decide) (by decide +kernel) rfl dX7_winter_74 ?_
              refine lv_iconst (v := 1) G0.1 G0.2.1 dX7_winter_77 (by decide) ?_
              refine lv_iadd G0.1 G0.2.1 dX7_winter_78 ?_
              refine lv_topi (fun x_49 ex_49 => ?_)
              first | have tx_49 := ti_add ex_49 (by omega) (by omega) | skip
              have hfo_50 := (hRP o To).2
              have hRP : RPv E G o f f_j39 := hRP.toV
              refine py_put (C := RX2) (T := TX2) (N := 12) (k := 11) (v := .int x_49) (fs' := [.ref (G.2 o 0), .ref (G.2 o 1), .ref (G.2 o 2), .ref (G.2 o 3), .ref (G.2 o 4), .ref (G.2 o 5), .ref (G.2 o 6), .ref (G.2 o 7), .ref (G.2 o 8), .ref r_41, .long y_42, .int x_49]) (ty0 := tyX2) G0 hw tyX2_ok nmX2 in_X7_winter_X2 rfl hr_46 (by decide) (by decide +kernel) rfl rfl rfl rfl (Nat.le_of_ble_eq_true rfl) rfl dX7_winter_79 (fun f_51 H_52 locs h_53 x_54 hw => ?_)
              have hKP := hKP.upd hWF x_54 To (Or.inl (by decide))
              have hRP := hRP.trans (rpv_upd hG hWF x_54 hr_46.2 h_53.2 (rp_code hG To (by decide)) (by first | exact Or.inr rfl | exact Or.inl rfl))
              have hWF := wf_upd hWF h_53 x_54 (by rw [To]; exact ⟨r_41, y_42, x_49, rfl, ty_44, ⟨by omega, by omega⟩⟩)
              have tq_55 := fo_eq h_53
              have hr_38 := hr_38.ext x_54 (py_ne_kind hr_38 hr_46 (by decide))
              have tq_56 := va_eq hr_38
              exact py_vret G0 hr hlk hw ⟨(by first | omega | (intro q; omega)), hWF, hRP, hKP⟩ dX7_winter_82
            · skip
              have tc_40 := ti_nle c_40
              refine lv_aload_n G0.1 G0.2.1 dX7_winter_48 rfl (lv_at hl 3 rfl) ?_
              obtain ⟨r_57, y_58, v_59, hr_62, ty_60, b_61⟩ := wg_2 hWF To
              have tq_63 := fo_eq hr_62
              have tq_64 := fv_now hRP hKP (by decide) hWF To
              refine py_get (C := RX2) (T := TX2) (N := 12) (k := 0) (v := .ref (G.2 o 0)) G0 hw in_X7_winter_X2 rfl hr_62 (by decide) (by decide +kernel) rfl dX7_winter_49 ?_
              refine lv_iload G0.1 G0.2.1 dX7_winter_52 (lv_at hl 0 rfl) ?_
              obtain ⟨g_65, ha_66, hi_67⟩ := wf_arr (n := 10) (lo := 0) (hi := 20) hWF t_1 (by omega) (wf_own0 E G _ o)
              have rg_68 : vp_in v_33 10 := ti_in (by omega) (by omega)
              refine py_iald G0 hw ha_66 rg_68 dX7_winter_54 ?_
              refine lv_topi (fun x_69 ex_69 => ?_)
              have bx_69 := ti_at hi_67 rg_68 ex_69
              have qx_69 := ari_ld ha_66 ex_69
              refine lv_if_le (tgt := 66) G0.1 G0.2.1 dX7_winter_55 (by decide) (fun c_70 => ?_) (fun c_70 => ?_)
              · skip
                have tc_70 := ti_le c_70
                obtain ⟨x_71, ex_71⟩ : ∃ y : Int32, y = v_33 + 1 := ⟨_, rfl⟩
                first | have tx_71 := ti_add ex_71 (by omega) (by omega) | skip
                refine lv_iinc (v := x_71) (lv' := [(4, .int x_71), (3, .ref r_10), (0, .ref h), (1, .ref o), (2, .ref q)]) G0.1 G0.2.1 dX7_winter_66 hl (k := 0) rfl (show _ + (1 : Int32) = _ from ex_71.symm) (by decide) rfl (fun ls hl => ?_)
                refine lv_goto (tgt := 39) G0.1 G0.2.1 dX7_winter_69 (by decide) ?_
                exact ih_39 ((2147483647 - x_71.toInt).toNat) (by omega) x_71 L_j39 f_j39 _ _ ls rfl ⟨by omega, by omega⟩ hWF hRP hKP hw (lv_sub hl [0, 1, 2, 3, 4] rfl)
              · skip
                have tc_70 := ti_nle c_70
                have hrl := rlv_ari hG hWF To ((hRP o To).1 hq0) (i := v_33) (by omega) (by omega)
                refine lv_aload_n G0.1 G0.2.1 dX7_winter_58 rfl (lv_at hl 2 rfl) ?_
                refine lv_aload_n G0.1 G0.2.1 dX7_winter_59 rfl (lv_at hl 3 rfl) ?_
                refine lv_aload_n G0.1 G0.2.1 dX7_winter_60 rfl (lv_at hl 4 rfl) ?_
                refine lv_iload G0.1 G0.2.1 dX7_winter_61 (lv_at hl 0 rfl) ?_
                obtain ⟨t_72, t_73, t_74⟩ := wt_7 hG Th
                obtain ⟨v_75, v_76, hr_78, b_77⟩ := wg_7 hWF Th
                have bv_75 := wf_free v_75
                refine py_callv hw (va_runV (As := [.ref o, .ref q, .int v_33]) (rest := []) G0 (c_X7_winterOf l E G L_j39 f_j39 H_j39.size h o q v_33 hG hWF Th To Tq ⟨by omega, by omega⟩ (show 1 ≤ ari f_j39 (G.2 o 0) v_33 by omega) (show 0 ≤ ari f_j39 (G.2 o 1) v_33 by omega)) (cwV 3 G0.2.2.2.2 g_X7_winter_X7_winterOf_52 rfl rfl rfl (by decide +kernel) ⟨(Nat.le_of_ble_eq_true rfl), (Nat.le_of_ble_eq_true rfl)⟩) (py_preV hw (C := RX7) (T := TX7) (N := 5) rfl hr_78) rfl rfl hl.1 rfl (lv_room (Nat.le_of_ble_eq_true rfl)) dX7_winter_63 ⟨(Nat.le_of_ble_eq_true rfl), (Nat.le_of_ble_eq_true rfl)⟩) (fun L_79 f_80 H_81 locs hp_82 hw => ?_)
                obtain ⟨hWF, hq_84, kp_85⟩ := hp_82
                have hRP := hRP.trans hq_84
                have hKP := hKP.trans kp_85 (by decide) (by decide)
                have hr_38 := kp_at kp_85 hWF ty_13 (by decide) (by decide) (by decide) hr_38
                have tq_86 := va_eq hr_38
                have hr_78 := kp_at kp_85 hWF Th (by decide) (by decide) (by decide) hr_78
                obtain ⟨x_87, ex_87⟩ : ∃ y : Int32, y = v_33 + 1 := ⟨_, rfl⟩
                first | have tx_87 := ti_add ex_87 (by omega) (by omega) | skip
                refine lv_iinc (v := x_87) (lv' := [(4, .int x_87), (3, .ref r_10), (0, .ref h), (1, .ref o), (2, .ref q)]) G0.1 G0.2.1 dX7_winter_66 hl (k := 0) rfl (show _ + (1 : Int32) = _ from ex_87.symm) (by decide) rfl (fun ls hl => ?_)
                refine lv_goto (tgt := 39) G0.1 G0.2.1 dX7_winter_69 (by decide) ?_
                exact ih_39 ((2147483647 - x_87.toInt).toNat) (by omega) x_87 L_79 f_80 _ _ ls rfl ⟨by omega, by omega⟩ hWF hRP hKP hw (lv_sub hl [0, 1, 2, 3, 4] rfl)
        exact lo_39 _ 0 L_j8 f_j8 _ _ ls rfl ⟨by omega, by omega⟩ hWF hRP hKP hw (lv_sub hl [0, 1, 2, 3, 4] rfl)
      · skip
        have tc_32 := ti_nle c_32
        refine lv_aload_n G0.1 G0.2.1 dX7_winter_17 rfl (lv_at hl 2 rfl) ?_
        obtain ⟨t_88, t_89, t_90⟩ := wt_7 hG Th
        obtain ⟨v_91, v_92, hr_94, b_93⟩ := wg_7 hWF Th
        have bv_91 := wf_free v_91
        refine py_get (C := RX7) (T := TX7) (N := 5) (k := 0) (v := .ref (G.2 h 0)) G0 hw in_X7_winter_X7 rfl hr_94 (by decide) (by decide +kernel) rfl dX7_winter_18 ?_
        refine lv_iload G0.1 G0.2.1 dX7_winter_21 (lv_at hl 0 rfl) ?_
        refine lv_aload_n G0.1 G0.2.1 dX7_winter_23 rfl (lv_at hl 3 rfl) ?_
        refine lv_iload G0.1 G0.2.1 dX7_winter_24 (lv_at hl 0 rfl) ?_
        obtain ⟨r_95, y_96, v_97, hr_100, ty_98, b_99⟩ := wg_2 hWF To
        have tq_101 := fo_eq hr_100
        have tq_102 := fv_now hRP hKP (by decide) hWF To
        refine py_calli hw (va_runV (As := [.int v_17]) (rest := [.int v_17, .ref (G.2 h 0)]) G0 (c_X2_lackAt l E G L_j8 f_j8 H_j8.size o v_17 hG hWF To ⟨by omega, by omega⟩) (cwV 1 G0.2.2.2.2 g_X7_winter_X2_lackAt_42 rfl rfl rfl (by decide +kernel) ⟨(Nat.le_of_ble_eq_true rfl), (Nat.le_of_ble_eq_true rfl)⟩) (py_preV hw (C := RX2) (T := TX2) (N := 12) rfl hr_100) rfl rfl hl.1 rfl (lv_room (Nat.le_of_ble_eq_true rfl)) dX7_winter_26 ⟨(Nat.le_of_ble_eq_true rfl), (Nat.le_of_ble_eq_true rfl)⟩) (fun r_107 L_103 f_104 H_105 locs hp_106 hw => ?_)
        obtain ⟨rfl, rfl⟩ := hp_106
        have br_107 := wf_free r_107
        obtain ⟨g_108, ha_109, hi_110⟩ := wf_arr (n := 8) (lo := (-2147483648)) (hi := 2147483647) hWF t_88 (by decide) (fun _ => rfl)
        have rg_111 : vp_in v_17 8 := ti_in (by omega) (by omega)
        refine py_iast G0 hw ha_109 rg_111 dX7_winter_29 (fun f_112 H_113 locs h_114 x_115 hw => ?_)
        have hKP := hKP.upd hWF x_115 t_88 (Or.inl (by decide))
        have hRP := hRP.trans (rp_upd hG hWF x_115 ha_109.2 h_114.2 (rp_code hG t_88 (by decide)) rfl)
        have hi_116 := wf_inu (k := (v_17 : Int32).toNatClampNeg) (x := r_107) hi_110 (wf_free r_107).1 (wf_free r_107).2
        have hWF := wf_upd hWF h_114 x_115 (by rw [t_88]; exact ⟨_, rfl, hi_116⟩)
        have hr_30 := hr_30.ext x_115 (py_ne_arr hr_30 ha_109)
        have tq_117 := va_eq hr_30
        have hr_94 := hr_94.ext x_115 (py_ne_arr hr_94 ha_109)
        have hr_100 := hr_100.ext x_115 (py_ne_arr hr_100 ha_109)
        have tq_118 := fo_eq hr_100
        have tq_119 := fv_now hRP hKP (by decide) hWF To
        obtain ⟨x_120, ex_120⟩ : ∃ y : Int32, y = v_17 + 1 := ⟨_, rfl⟩
        first | have tx_120 := ti_add ex_120 (by omega) (by omega) | skip
        refine lv_iinc (v := x_120) (lv' := [(4, .int x_120), (3, .ref r_10), (0, .ref h), (1, .ref o), (2, .ref q)]) G0.1 G0.2.1 dX7_winter_30 hl (k := 0) rfl (show _ + (1 : Int32) = _ from ex_120.symm) (by decide) rfl (fun ls hl => ?_)
        refine lv_goto (tgt := 8) G0.1 G0.2.1 dX7_winter_33 (by decide) ?_
        exact ih_8 ((2147483647 - x_120.toInt).toNat) (by omega) x_120 L_j8 f_112 _ _ ls rfl ⟨by omega, by omega⟩ hWF hRP hKP hw (lv_sub hl [0, 1, 2, 3, 4] rfl)
  exact lo_8 _ 0 L f _ _ ls rfl ⟨by omega, by omega⟩ hWF hRP hKP hw (lv_sub hl [0, 1, 2, 3, 4] rfl)

def w_X7_settleDebts : List Cond := .code yX7_settleDebts cX7_settleDebts 2 none :: ([Cond.fieldLink RX7 33 "HeadYear$Folk" "valley" "LHeadYear$Valley;", Cond.fieldLink RX7 46 "HeadYear$Valley" "families" "I", Cond.fieldLink RX7 89 "HeadYear$Folk" "debt" "[I", Cond.fieldLink RX7 127 "HeadYear$Folk" "bought" "[I", Cond.methodLink RX7 130 yX2_want, Cond.instanceMethod yX2_want, Cond.selects RX2 yX2_want yX2_want, Cond.initialized RX2, Cond.fieldLink RX7 86 "HeadYear$Folk" "level" "[I"] ++ (u_ws RX2 TX2 12 ++ (u_ws RX9 TX9 10 ++ (w_X2_want ++ ([])))))
theorem in_X7_settleDebts_X2 : ∀ w ∈ u_ws RX2 TX2 12, w ∈ w_X7_settleDebts := fun _ h => List.mem_cons_of_mem _ (List.mem_append_right _ (List.mem_append_left _ h))
theorem in_X7_settleDebts_X9 : ∀ w ∈ u_ws RX9 TX9 10, w ∈ w_X7_settleDebts := fun _ h => List.mem_cons_of_mem _ (List.mem_append_right _ (List.mem_append_right _ (List.mem_append_left _ h)))
theorem gg_X7_settleDebts_X2_want : GoodIn w_X7_settleDebts w_X2_want := goodIn_sub (fun _ h => List.mem_cons_of_mem _ (List.mem_append_right _ (List.mem_append_right _ (List.mem_append_right _ (List.mem_append_left _ h))))) (by decide +kernel)
theorem g_X7_settleDebts_X2_want_130 : GoodIn w_X7_settleDebts (wsV RX7 130 RX2 yX2_want w_X2_want) := goodIn_app (goodIn_of _ (by decide +kernel)) gg_X7_settleDebts_X2_want
set_option maxHeartbeats 4000000 in
set_option maxRecDepth 100000 in
theorem c_X7_settleDebts (l : Launch) (E : py_E) (G : wf_G) (L : List Nat) (f : py_F) (sz : Nat) (o : Nat) (hG : GT G) (hWF : WF E G L f) (To : G.1 o = 3) (hp0 : 1 ≤ fv_l f o) : Met l yX7_settleDebts w_X7_settleDebts ({ frames := 2, cells := 0, slots := 0, locals := 46 }) (py_Pc E [.ref o] L f sz) (py_Qv E L f sz (fun L1 f1 => (DV G f1 o (fv_f f o)) ∧ WF E G L1 f1 ∧ RP E G f f1 ∧ KP G [26, 37] false f f1)) 0 0 (va_A (va_pl L f) sz) := by
  refine Met.ofW (cc := cX7_settleDebts) (maxL := 2) (ret := none) (by decide) rfl ?_
  intro p e s m args below meth c s₁ B hml hv
  obtain ⟨rfl, rfl, hw⟩ := py_start hv
  have G0 : CallFix p m c cX7_settleDebts 2 s _ w_X7_settleDebts RX7 := ⟨B.exec, B.bytes, hml, findClass_of_methodNamed B.named, atoms_spec (ws := w_X7_settleDebts) B.pre⟩
  have hr := B.returns
  have hlk := B.notSynchronized
  have kcm1 : (-1 : Int32).toInt = -1 := rfl
  have kc0 : (0 : Int32).toInt = 0 := rfl
  have kc1 : (1 : Int32).toInt = 1 := rfl
  have hl := lv_entry ([.ref o]) (n := 2) (Nat.le_of_ble_eq_true rfl)
  rw [lg_entry_eq]
  generalize (lg_sl ([.ref o]) ++ List.replicate (2 - (lg_sl ([.ref o])).length) Slot.unset).toArray = ls at hl ⊢
  have hl : lv_has ls 2 [(0, .ref o)] := hl
  have hRP : RP E G f f := RP.refl
  have hKP : KP G [26, 37] false f f := KP.refl
  refine lv_iconst (v := 0) G0.1 G0.2.1 dX7_settleDebts_0 (by decide) ?_
  refine lv_istore_n (lv' := [(1, .int 0), (0, .ref o)]) G0.1 G0.2.1 dX7_settleDebts_1 rfl hl (by decide) rfl (fun ls hl => ?_)
  have lo_2 : ∀ n_2 : Nat, ∀ (v_1 : Int32) (L_j2 : List Nat) (f_j2 : py_F) (H_j2 : Heap) (locs : List Loc) (ls : Array Slot), (2147483647 - v_1.toInt).toNat = n_2 → (0 ≤ v_1.toInt ∧ v_1.toInt ≤ 2147483647) → WF E G L_j2 f_j2 → RP E G f f_j2 → KP G [26, 37] false f f_j2 → (DV G f_j2 o v_1.toInt) → py_W E (va_A (va_pl L f) s.heap.size) s L_j2 f_j2 H_j2 locs → lv_has ls 2 [(1, .int v_1), (0, .ref o)] → W p l e (headSpec w_X7_settleDebts ({ frames := 2, cells := 0, slots := 0, locals := 46 })).room s m ([.ref o] : List Value).toArray below meth c H_j2 locs 0 0 (MQ below (py_Qv E L f s.heap.size (fun L1 f1 => (DV G f1 o (fv_f f o)) ∧ WF E G L1 f1 ∧ RP E G f f1 ∧ KP G [26, 37] false f f1)) ([.ref o] : List Value).toArray s 0 0 (va_A (va_pl L f) s.heap.size)) (F0 m 2 ls []) := by
    intro n_2
    induction n_2 using Nat.strongRecOn with
    | _ n_2 ih_2 =>
      intro v_1 L_j2 f_j2 H_j2 locs ls hn_2 bv_1 hWF hRP hKP iv0 hw hl
      have hDV := iv0
      refine lv_iload_n G0.1 G0.2.1 dX7_settleDebts_2 rfl (lv_at hl 0 rfl) ?_
      refine lv_aload_n G0.1 G0.2.1 dX7_settleDebts_3 rfl (lv_at hl 1 rfl) ?_
      obtain ⟨t_2, t_3, t_4, t_5, t_6, t_7, t_8, t_9, t_10⟩ := wt_2 hG To
      obtain ⟨r_11, y_12, v_13, hr_16, ty_14, b_15⟩ := wg_2 hWF To
      have tq_17 := fo_eq hr_16
      have tq_18 := fv_now hRP hKP (by decide) hWF To
      refine py_get (C := RX2) (T := TX2) (N := 12) (k := 9) (v := .ref r_11) G0 hw in_X7_settleDebts_X2 rfl hr_16 (by decide) (by decide +kernel) rfl dX7_settleDebts_4 ?_
      obtain ⟨t_19, t_20, t_21, t_22, t_23, t_24, t_25, t_26⟩ := wt_9 hG ty_14
      obtain ⟨v_27, v_28, hr_31, b_29, b_30⟩ := wg_9 hWF ty_14
      have tq_32 := va_eq hr_31
      refine py_get (C := RX9) (T := TX9) (N := 10) (k := 9) (v := .int v_28) G0 hw in_X7_settleDebts_X9 rfl hr_31 (by decide) (by decide +kernel) rfl dX7_settleDebts_7 ?_
      refine lv_icmp_ge (tgt := 59) G0.1 G0.2.1 dX7_settleDebts_10 (by decide) (fun c_33 => ?_) (fun c_33 => ?_)
      · skip
        have tc_33 := ti_le c_33
        exact py_vret G0 hr hlk hw ⟨(hDV.cast (by omega)), hWF, hRP, hKP⟩ dX7_settleDebts_59
      · skip
        have tc_33 := ti_nle c_33
        refine lv_aload_n G0.1 G0.2.1 dX7_settleDebts_13 rfl (lv_at hl 1 rfl) ?_
        refine py_get (C := RX2) (T := TX2) (N := 12) (k := 3) (v := .ref (G.2 o 3)) G0 hw in_X7_settleDebts_X2 rfl hr_16 (by decide) (by decide +kernel) rfl dX7_settleDebts_14 ?_
        refine lv_iload_n G0.1 G0.2.1 dX7_settleDebts_17 rfl (lv_at hl 0 rfl) ?_
        refine lv_dup2_11 G0.1 G0.2.1 dX7_settleDebts_18 rfl rfl ?_
        obtain ⟨g_34, ha_35, hi_36⟩ := wf_arr (n := 10) (lo := (-2147483648)) (hi := 2147483647) hWF t_5 (by decide) (fun _ => rfl)
        have rg_37 : vp_in v_1 10 := ti_in (by omega) (by omega)
        refine py_iald G0 hw ha_35 rg_37 dX7_settleDebts_19 ?_
        refine lv_topi (fun x_38 ex_38 => ?_)
        have bx_38 := wf_free x_38
        have qx_38 := ari_ld ha_35 ex_38
        refine lv_aload_n G0.1 G0.2.1 dX7_settleDebts_20 rfl (lv_at hl 1 rfl) ?_
        refine py_get (C := RX2) (T := TX2) (N := 12) (k := 6) (v := .ref (G.2 o 6)) G0 hw in_X7_settleDebts_X2 rfl hr_16 (by decide) (by decide +kernel) rfl dX7_settleDebts_21 ?_
        refine lv_iload_n G0.1 G0.2.1 dX7_settleDebts_24 rfl (lv_at hl 0 rfl) ?_
        obtain ⟨g_39, ha_40, hi_41⟩ := wf_arr (n := 10) (lo := (-2147483648)) (hi := 2147483647) hWF t_8 (by decide) (fun _ => rfl)
        have rg_42 : vp_in v_1 10 := ti_in (by omega) (by omega)
        refine py_iald G0 hw ha_40 rg_42 dX7_settleDebts_25 ?_
        refine lv_topi (fun x_43 ex_43 => ?_)
        have bx_43 := wf_free x_43
        have qx_43 := ari_ld ha_40 ex_43
        refine lv_iadd G0.1 G0.2.1 dX7_settleDebts_26 ?_
        refine lv_topi (fun x_44 ex_44 => ?_)
        first | have tx_44 := ti_add ex_44 (by omega) (by omega) | skip
        have rg_45 : vp_in v_1 10 := ti_in (by omega) (by omega)
        refine py_iast G0 hw ha_35 rg_45 dX7_settleDebts_27 (fun f_46 H_47 locs h_48 x_49 hw => ?_)
        have hkw : KP G [37] false f_j2 f_46 := KP.refl.upd hWF x_49 t_5 (Or.inl (by decide))
        have hKP := hKP.upd hWF x_49 t_5 (Or.inl (by decide))
        have hRP := hRP.trans (rp_upd hG hWF x_49 ha_35.2 h_48.2 (rp_code hG t_5 (by decide)) rfl)
        have hi_50 := wf_inu (k := (v_1 : Int32).toNatClampNeg) (x := x_44) hi_36 (wf_free x_44).1 (wf_free x_44).2
        have hWF := wf_upd hWF h_48 x_49 (by rw [t_5]; exact ⟨_, rfl, hi_50⟩)
        have hr_16 := hr_16.ext x_49 (py_ne_arr hr_16 ha_35)
        have tq_51 := fo_eq hr_16
        have tq_52 := fv_now hRP hKP (by decide) hWF To
        have hr_31 := hr_31.ext x_49 (py_ne_arr hr_31 ha_35)
        have tq_53 := va_eq hr_31
        have ha_40 := ha_40.ext x_49 (wf_ne t_8 t_5 (by decide))
        have hDV := hDV.hi ha_35 h_48 (x_49 (G.2 o 1) (hWF (G.2 o 1) (by rw [t_3]; omega)).1 (wf_ne t_3 t_5 (by omega))).2 (by omega) (by omega)
        refine lv_aload_n G0.1 G0.2.1 dX7_settleDebts_28 rfl (lv_at hl 1 rfl) ?_
        refine py_get (C := RX2) (T := TX2) (N := 12) (k := 6) (v := .ref (G.2 o 6)) G0 hw in_X7_settleDebts_X2 rfl hr_16 (by decide) (by decide +kernel) rfl dX7_settleDebts_29 ?_
        refine lv_iload_n G0.1 G0.2.1 dX7_settleDebts_32 rfl (lv_at hl 0 rfl) ?_
        refine lv_iconst (v := 0) G0.1 G0.2.1 dX7_settleDebts_33 (by decide) ?_
        have rg_54 : vp_in v_1 10 := ti_in (by omega) (by omega)
        refine py_iast G0 hw ha_40 rg_54 dX7_settleDebts_34 (fun f_55 H_56 locs h_57 x_58 hw => ?_)
        have hkw : KP G [26] false f_46 f_55 := KP.refl.upd hWF x_58 t_8 (Or.inl (by decide))
        have hKP := hKP.upd hWF x_58 t_8 (Or.inl (by decide))
        have hRP := hRP.trans (rp_upd hG hWF x_58 ha_40.2 h_57.2 (rp_code hG t_8 (by decide)) rfl)
        have hi_59 := wf_inu (k := (v_1 : Int32).toNatClampNeg) (x := 0) hi_41 (wf_free 0).1 (wf_free 0).2
        have hWF := wf_upd hWF h_57 x_58 (by rw [t_8]; exact ⟨_, rfl, hi_59⟩)
        have hr_16 := hr_16.ext x_58 (py_ne_arr hr_16 ha_40)
        have tq_60 := fo_eq hr_16
        have tq_61 := fv_now hRP hKP (by decide) hWF To
        have hr_31 := hr_31.ext x_58 (py_ne_arr hr_31 ha_40)
        have tq_62 := va_eq hr_31
        have h_48 := h_48.ext x_58 (wf_ne t_5 t_8 (by decide))
        have hDV := hDV.kp hG To hkw (by decide) (by decide)
        refine lv_aload_n G0.1 G0.2.1 dX7_settleDebts_35 rfl (lv_at hl 1 rfl) ?_
        refine py_get (C := RX2) (T := TX2) (N := 12) (k := 3) (v := .ref (G.2 o 3)) G0 hw in_X7_settleDebts_X2 rfl hr_16 (by decide) (by decide +kernel) rfl dX7_settleDebts_36 ?_
        refine lv_iload_n G0.1 G0.2.1 dX7_settleDebts_39 rfl (lv_at hl 0 rfl) ?_
        refine lv_aload_n G0.1 G0.2.1 dX7_settleDebts_40 rfl (lv_at hl 1 rfl) ?_
        refine lv_iload_n G0.1 G0.2.1 dX7_settleDebts_41 rfl (lv_at hl 0 rfl) ?_
        refine py_calli hw (va_runV (As := [.int v_1]) (rest := [.int v_1, .ref (G.2 o 3)]) G0 (c_X2_want l E G L_j2 f_55 H_56.size o v_1 hG hWF To ⟨by omega, by omega⟩) (cwV 1 G0.2.2.2.2 g_X7_settleDebts_X2_want_130 rfl rfl rfl (by decide +kernel) ⟨(Nat.le_of_ble_eq_true rfl), (Nat.le_of_ble_eq_true rfl)⟩) (py_preV hw (C := RX2) (T := TX2) (N := 12) rfl hr_16) rfl rfl hl.1 rfl (lv_room (Nat.le_of_ble_eq_true rfl)) dX7_settleDebts_42 ⟨(Nat.le_of_ble_eq_true rfl), (Nat.le_of_ble_eq_true rfl)⟩) (fun r_67 L_63 f_64 H_65 locs hp_66 hw => ?_)
        obtain ⟨b_69, en_68, rfl, rfl⟩ := hp_66
        refine lv_aload_n G0.1 G0.2.1 dX7_settleDebts_45 rfl (lv_at hl 1 rfl) ?_
        refine py_get (C := RX2) (T := TX2) (N := 12) (k := 1) (v := .ref (G.2 o 1)) G0 hw in_X7_settleDebts_X2 rfl hr_16 (by decide) (by decide +kernel) rfl dX7_settleDebts_46 ?_
        refine lv_iload_n G0.1 G0.2.1 dX7_settleDebts_49 rfl (lv_at hl 0 rfl) ?_
        obtain ⟨g_70, ha_71, hi_72⟩ := wf_arr (n := 10) (lo := (-1)) (hi := 7) hWF t_3 (by omega) (wf_own1 E G _ o)
        have rg_73 : vp_in v_1 10 := ti_in (by omega) (by omega)
        refine py_iald G0 hw ha_71 rg_73 dX7_settleDebts_50 ?_
        refine lv_topi (fun x_74 ex_74 => ?_)
        have bx_74 := ti_at hi_72 rg_73 ex_74
        have qx_74 := ari_ld ha_71 ex_74
        refine lv_isub G0.1 G0.2.1 dX7_settleDebts_51 ?_
        refine lv_topi (fun x_75 ex_75 => ?_)
        first | have tx_75 := ti_sub ex_75 (by omega) (by omega) | skip
        have rg_76 : vp_in v_1 10 := ti_in (by omega) (by omega)
        refine py_iast G0 hw h_48 rg_76 dX7_settleDebts_52 (fun f_77 H_78 locs h_79 x_80 hw => ?_)
        have hkw : KP G [37] false f_55 f_77 := KP.refl.upd hWF x_80 t_5 (Or.inl (by decide))
        have hKP := hKP.upd hWF x_80 t_5 (Or.inl (by decide))
        have hRP := hRP.trans (rp_upd hG hWF x_80 h_48.2 h_79.2 (rp_code hG t_5 (by decide)) rfl)
        have hi_81 := wf_inu (k := (v_1 : Int32).toNatClampNeg) (x := x_75) hi_50 (wf_free x_75).1 (wf_free x_75).2
        have hWF := wf_upd hWF h_79 x_80 (by rw [t_5]; exact ⟨_, rfl, hi_81⟩)
        have hr_16 := hr_16.ext x_80 (py_ne_arr hr_16 h_48)
        have tq_82 := fo_eq hr_16
        have tq_83 := fv_now hRP hKP (by decide) hWF To
        have hr_31 := hr_31.ext x_80 (py_ne_arr hr_31 h_48)
        have tq_84 := va_eq hr_31
        have h_57 := h_57.ext x_80 (wf_ne t_8 t_5 (by decide))
        have hDV := hDV.step h_48 h_79 (x_80 (G.2 o 1) (hWF (G.2 o 1) (by rw [t_3]; omega)).1 (wf_ne t_3 t_5 (by omega))).2 (by omega) (by omega) (by omega)
        obtain ⟨x_85, ex_85⟩ : ∃ y : Int32, y = v_1 + 1 := ⟨_, rfl⟩
        first | have tx_85 := ti_add ex_85 (by omega) (by omega) | skip
        refine lv_iinc (v := x_85) (lv' := [(1, .int x_85), (0, .ref o)]) G0.1 G0.2.1 dX7_settleDebts_53 hl (k := 0) rfl (show _ + (1 : Int32) = _ from ex_85.symm) (by decide) rfl (fun ls hl => ?_)
        refine lv_goto (tgt := 2) G0.1 G0.2.1 dX7_settleDebts_56 (by decide) ?_
        exact ih_2 ((2147483647 - x_85.toInt).toNat) (by omega) x_85 L_j2 f_77 _ _ ls rfl ⟨by omega, by omega⟩ hWF hRP hKP (hDV.cast (by omega)) hw (lv_sub hl [0, 1] rfl)
  exact lo_2 _ 0 L f _ _ ls rfl ⟨by omega, by omega⟩ hWF hRP hKP (DV.zero (by omega)) hw (lv_sub hl [0, 1] rfl)

def w_X7_moveIntoEmpty : List Cond := .code yX7_moveIntoEmpty cX7_moveIntoEmpty 5 (some .int) :: ([Cond.fieldLink RX7 33 "HeadYear$Folk" "valley" "LHeadYear$Valley;", Cond.fieldLink RX7 46 "HeadYear$Valley" "families" "I", Cond.fieldLink RX7 86 "HeadYear$Folk" "level" "[I", Cond.fieldLink RX7 89 "HeadYear$Folk" "debt" "[I", Cond.methodLink RX7 133 yX2_emptyHuts, Cond.instanceMethod yX2_emptyHuts, Cond.selects RX2 yX2_emptyHuts yX2_emptyHuts, Cond.initialized RX2, Cond.fieldLink RX7 29 "HeadYear$Seasons" "luck" "Z", Cond.methodLink RX7 136 yX2_emptyHut, Cond.instanceMethod yX2_emptyHut, Cond.selects RX2 yX2_emptyHut yX2_emptyHut, Cond.methodLink RX7 139 yX2_move, Cond.instanceMethod yX2_move, Cond.selects RX2 yX2_move yX2_move, Cond.methodLink RX7 100 yX2_draw, Cond.instanceMethod yX2_draw, Cond.selects RX2 yX2_draw yX2_draw] ++ (u_ws RX2 TX2 12 ++ (u_ws RX9 TX9 10 ++ (u_ws RX7 TX7 5 ++ (w_X2_emptyHuts ++ (w_X2_emptyHut ++ (w_X2_move ++ (w_X2_draw ++ ([])))))))))
theorem in_X7_moveIntoEmpty_X2 : ∀ w ∈ u_ws RX2 TX2 12, w ∈ w_X7_moveIntoEmpty := fun _ h => List.mem_cons_of_mem _ (List.mem_append_right _ (List.mem_append_left _ h))
theorem in_X7_moveIntoEmpty_X9 : ∀ w ∈ u_ws RX9 TX9 10, w ∈ w_X7_moveIntoEmpty := fun _ h => List.mem_cons_of_mem _ (List.mem_append_right _ (List.mem_append_right _ (List.mem_append_left _ h)))
theorem in_X7_moveIntoEmpty_X7 : ∀ w ∈ u_ws RX7 TX7 5, w ∈ w_X7_moveIntoEmpty := fun _ h => List.mem_cons_of_mem _ (List.mem_append_right _ (List.mem_append_right _ (List.mem_append_right _ (List.mem_append_left _ h))))
theorem gg_X7_moveIntoEmpty_X2_emptyHuts : GoodIn w_X7_moveIntoEmpty w_X2_emptyHuts := goodIn_sub (fun _ h => List.mem_cons_of_mem _ (List.mem_append_right _ (List.mem_append_right _ (List.mem_append_right _ (List.mem_append_right _ (List.mem_append_left _ h)))))) (by decide +kernel)
theorem gg_X7_moveIntoEmpty_X2_emptyHut : GoodIn w_X7_moveIntoEmpty w_X2_emptyHut := goodIn_sub (fun _ h => List.mem_cons_of_mem _ (List.mem_append_right _ (List.mem_append_right _ (List.mem_append_right _ (List.mem_append_right _ (List.mem_append_right _ (List.mem_append_left _ h))))))) (by decide +kernel)
theorem gg_X7_moveIntoEmpty_X2_move : GoodIn w_X7_moveIntoEmpty w_X2_move := goodIn_sub (fun _ h => List.mem_cons_of_mem _ (List.mem_append_right _ (List.mem_append_right _ (List.mem_append_right _ (List.mem_append_right _ (List.mem_append_right _ (List.mem_append_right _ (List.mem_append_left _ h)))))))) (by decide +kernel)
theorem gg_X7_moveIntoEmpty_X2_draw : GoodIn w_X7_moveIntoEmpty w_X2_draw := goodIn_sub (fun _ h => List.mem_cons_of_mem _ (List.mem_append_right _ (List.mem_append_right _ (List.mem_append_right _ (List.mem_append_right _ (List.mem_append_right _ (List.mem_append_right _ (List.mem_append_right _ (List.mem_append_left _ h))))))))) (by decide +kernel)
theorem g_X7_moveIntoEmpty_X2_draw_100 : GoodIn w_X7_moveIntoEmpty (wsV RX7 100 RX2 yX2_draw w_X2_draw) := goodIn_app (goodIn_of _ (by decide +kernel)) gg_X7_moveIntoEmpty_X2_draw
theorem g_X7_moveIntoEmpty_X2_emptyHut_136 : GoodIn w_X7_moveIntoEmpty (wsV RX7 136 RX2 yX2_emptyHut w_X2_emptyHut) := goodIn_app (goodIn_of _ (by decide +kernel)) gg_X7_moveIntoEmpty_X2_emptyHut
theorem g_X7_moveIntoEmpty_X2_emptyHuts_133 : GoodIn w_X7_moveIntoEmpty (wsV RX7 133 RX2 yX2_emptyHuts w_X2_emptyHuts) := goodIn_app (goodIn_of _ (by decide +kernel)) gg_X7_moveIntoEmpty_X2_emptyHuts
theorem g_X7_moveIntoEmpty_X2_move_139 : GoodIn w_X7_moveIntoEmpty (wsV RX7 139 RX2 yX2_move w_X2_move) := goodIn_app (goodIn_of _ (by decide +kernel)) gg_X7_moveIntoEmpty_X2_move
set_option maxHeartbeats 4000000 in
set_option maxRecDepth 100000 in
theorem c_X7_moveIntoEmpty (l : Launch) (E : py_E) (G : wf_G) (L : List Nat) (f : py_F) (sz : Nat) (h : Nat) (o : Nat) (hG : GT G) (hWF : WF E G L f) (Th : G.1 h = 8) (To : G.1 o = 3) (hq0 : DV G f o (fv_f f o)) : Met l yX7_moveIntoEmpty w_X7_moveIntoEmpty ({ frames := 2, cells := 0, slots := 0, locals := 47 }) (py_Pc E [.ref h, .ref o] L f sz) (py_Qi E L f sz (fun _ L1 f1 => (DV G f1 o (fv_f f o)) ∧ WF E G L1 f1 ∧ RP E G f f1 ∧ KP G [3, 26, 37] true f f1)) 0 0 (va_A (va_pl L f) sz) := by
  refine Met.ofW (cc := cX7_moveIntoEmpty) (maxL := 5) (ret := (some .int)) (by decide) rfl ?_
  intro p e s m args below meth c s₁ B hml hv
  obtain ⟨rfl, rfl, hw⟩ := py_start hv
  have G0 : CallFix p m c cX7_moveIntoEmpty 5 s _ w_X7_moveIntoEmpty RX7 := ⟨B.exec, B.bytes, hml, findClass_of_methodNamed B.named, atoms_spec (ws := w_X7_moveIntoEmpty) B.pre⟩
  have hr := B.returns
  have hlk := B.notSynchronized
  have kcm1 : (-1 : Int32).toInt = -1 := rfl
  have kc0 : (0 : Int32).toInt = 0 := rfl
  have kc1 : (1 : Int32).toInt = 1 := rfl
  have hl := lv_entry ([.ref h, .ref o]) (n := 5) (Nat.le_of_ble_eq_true rfl)
  rw [lg_entry_eq]
  generalize (lg_sl ([.ref h, .ref o]) ++ List.replicate (5 - (lg_sl ([.ref h, .ref o])).length) Slot.unset).toArray = ls at hl ⊢
  have hl : lv_has ls 5 [(0, .ref h), (1, .ref o)] := hl
  have hRP : RP E G f f := RP.refl
  have hKP : KP G [3, 26, 37] true f f := KP.refl
  have hDV := hq0
  refine lv_iconst (v := 0) G0.1 G0.2.1 dX7_moveIntoEmpty_0 (by decide) ?_
  refine lv_istore_n (lv' := [(2, .int 0), (0, .ref h), (1, .ref o)]) G0.1 G0.2.1 dX7_moveIntoEmpty_1 rfl hl (by decide) rfl (fun ls hl => ?_)
  have lo_2 : ∀ n_2 : Nat, ∀ (v_1 : Int32) (H_j2 : Heap) (locs : List Loc) (ls : Array Slot), (2147483647 - v_1.toInt).toNat = n_2 → (0 ≤ v_1.toInt ∧ v_1.toInt ≤ 2147483647) → py_W E (va_A (va_pl L f) s.heap.size) s L f H_j2 locs → lv_has ls 5 [(2, .int v_1), (0, .ref h), (1, .ref o)] → W p l e (headSpec w_X7_moveIntoEmpty ({ frames := 2, cells := 0, slots := 0, locals := 47 })).room s m ([.ref h, .ref o] : List Value).toArray below meth c H_j2 locs 0 0 (MQ below (py_Qi E L f s.heap.size (fun _ L1 f1 => (DV G f1 o (fv_f f o)) ∧ WF E G L1 f1 ∧ RP E G f f1 ∧ KP G [3, 26, 37] true f f1)) ([.ref h, .ref o] : List Value).toArray s 0 0 (va_A (va_pl L f) s.heap.size)) (F0 m 2 ls []) := by
    intro n_2
    induction n_2 using Nat.strongRecOn with
    | _ n_2 ih_2 =>
      intro v_1 H_j2 locs ls hn_2 bv_1 hw hl
      refine lv_iload_n G0.1 G0.2.1 dX7_moveIntoEmpty_2 rfl (lv_at hl 0 rfl) ?_
      refine lv_aload_n G0.1 G0.2.1 dX7_moveIntoEmpty_3 rfl (lv_at hl 2 rfl) ?_
      obtain ⟨t_2, t_3, t_4, t_5, t_6, t_7, t_8, t_9, t_10⟩ := wt_2 hG To
      obtain ⟨r_11, y_12, v_13, hr_16, ty_14, b_15⟩ := wg_2 hWF To
      have tq_17 := fo_eq hr_16
      refine py_get (C := RX2) (T := TX2) (N := 12) (k := 9) (v := .ref r_11) G0 hw in_X7_moveIntoEmpty_X2 rfl hr_16 (by decide) (by decide +kernel) rfl dX7_moveIntoEmpty_4 ?_
      obtain ⟨t_18, t_19, t_20, t_21, t_22, t_23, t_24, t_25⟩ := wt_9 hG ty_14
      obtain ⟨v_26, v_27, hr_30, b_28, b_29⟩ := wg_9 hWF ty_14
      have tq_31 := va_eq hr_30
      refine py_get (C := RX9) (T := TX9) (N := 10) (k := 9) (v := .int v_27) G0 hw in_X7_moveIntoEmpty_X9 rfl hr_30 (by decide) (by decide +kernel) rfl dX7_moveIntoEmpty_7 ?_
      refine lv_icmp_ge (tgt := 88) G0.1 G0.2.1 dX7_moveIntoEmpty_10 (by decide) (fun c_32 => ?_) (fun c_32 => ?_)
      · skip
        have tc_32 := ti_le c_32
        refine lv_iconst (v := 0) G0.1 G0.2.1 dX7_moveIntoEmpty_88 (by decide) ?_
        exact py_iret G0 hr rfl hlk hw ⟨hDV, hWF, hRP, hKP⟩ dX7_moveIntoEmpty_89
      · skip
        have tc_32 := ti_nle c_32
        refine lv_aload_n G0.1 G0.2.1 dX7_moveIntoEmpty_13 rfl (lv_at hl 2 rfl) ?_
        refine py_get (C := RX2) (T := TX2) (N := 12) (k := 1) (v := .ref (G.2 o 1)) G0 hw in_X7_moveIntoEmpty_X2 rfl hr_16 (by decide) (by decide +kernel) rfl dX7_moveIntoEmpty_14 ?_
        refine lv_iload_n G0.1 G0.2.1 dX7_moveIntoEmpty_17 rfl (lv_at hl 0 rfl) ?_
        obtain ⟨g_33, ha_34, hi_35⟩ := wf_arr (n := 10) (lo := (-1)) (hi := 7) hWF t_3 (by omega) (wf_own1 E G _ o)
        have rg_36 : vp_in v_1 10 := ti_in (by omega) (by omega)
        refine py_iald G0 hw ha_34 rg_36 dX7_moveIntoEmpty_18 ?_
        refine lv_topi (fun x_37 ex_37 => ?_)
        have bx_37 := ti_at hi_35 rg_36 ex_37
        have qx_37 := ari_ld ha_34 ex_37
        refine lv_aload_n G0.1 G0.2.1 dX7_moveIntoEmpty_19 rfl (lv_at hl 2 rfl) ?_
        refine py_get (C := RX2) (T := TX2) (N := 12) (k := 3) (v := .ref (G.2 o 3)) G0 hw in_X7_moveIntoEmpty_X2 rfl hr_16 (by decide) (by decide +kernel) rfl dX7_moveIntoEmpty_20 ?_
        refine lv_iload_n G0.1 G0.2.1 dX7_moveIntoEmpty_23 rfl (lv_at hl 0 rfl) ?_
        obtain ⟨g_38, ha_39, hi_40⟩ := wf_arr (n := 10) (lo := (-2147483648)) (hi := 2147483647) hWF t_5 (by decide) (fun _ => rfl)
        have rg_41 : vp_in v_1 10 := ti_in (by omega) (by omega)
        refine py_iald G0 hw ha_39 rg_41 dX7_moveIntoEmpty_24 ?_
        refine lv_topi (fun x_42 ex_42 => ?_)
        have bx_42 := wf_free x_42
        have qx_42 := ari_ld ha_39 ex_42
        have hdi := hDV v_1 (by omega) (by omega)
        refine lv_iadd G0.1 G0.2.1 dX7_moveIntoEmpty_25 ?_
        refine lv_topi (fun x_43 ex_43 => ?_)
        first | have tx_43 := ti_add ex_43 (by omega) (by omega) | skip
        refine lv_istore_n (lv' := [(3, .int x_43), (2, .int v_1), (0, .ref h), (1, .ref o)]) G0.1 G0.2.1 dX7_moveIntoEmpty_26 rfl hl (by decide) rfl (fun ls hl => ?_)
        refine lv_aload_n G0.1 G0.2.1 dX7_moveIntoEmpty_27 rfl (lv_at hl 3 rfl) ?_
        refine py_get (C := RX2) (T := TX2) (N := 12) (k := 3) (v := .ref (G.2 o 3)) G0 hw in_X7_moveIntoEmpty_X2 rfl hr_16 (by decide) (by decide +kernel) rfl dX7_moveIntoEmpty_28 ?_
        refine lv_iload_n G0.1 G0.2.1 dX7_moveIntoEmpty_31 rfl (lv_at hl 1 rfl) ?_
        have rg_44 : vp_in v_1 10 := ti_in (by omega) (by omega)
        refine py_iald G0 hw ha_39 rg_44 dX7_moveIntoEmpty_32 ?_
        refine lv_topi (fun x_45 ex_45 => ?_)
        have bx_45 := wf_free x_45
        have qx_45 := ari_ld ha_39 ex_45
        refine lv_if_ne (tgt := 40) G0.1 G0.2.1 dX7_moveIntoEmpty_33 (by decide) (fun c_46 => ?_) (fun c_46 => ?_)
        · skip
          have tc_46 := ti_ne c_46
          refine lv_aload_n G0.1 G0.2.1 dX7_moveIntoEmpty_40 rfl (lv_at hl 3 rfl) ?_
          refine lv_iload_n G0.1 G0.2.1 dX7_moveIntoEmpty_41 rfl (lv_at hl 0 rfl) ?_
          refine py_calli hw (va_runV (As := [.int x_43]) (rest := []) G0 (c_X2_emptyHuts l E G L f H_j2.size o x_43 hG hWF To ⟨by omega, by omega⟩) (cwV 1 G0.2.2.2.2 g_X7_moveIntoEmpty_X2_emptyHuts_133 rfl rfl rfl (by decide +kernel) ⟨(Nat.le_of_ble_eq_true rfl), (Nat.le_of_ble_eq_true rfl)⟩) (py_preV hw (C := RX2) (T := TX2) (N := 12) rfl hr_16) rfl rfl hl.1 rfl (lv_room (Nat.le_of_ble_eq_true rfl)) dX7_moveIntoEmpty_42 ⟨(Nat.le_of_ble_eq_true rfl), (Nat.le_of_ble_eq_true rfl)⟩) (fun r_51 L_47 f_48 H_49 locs hp_50 hw => ?_)
          obtain ⟨rfl, rfl⟩ := hp_50
          have br_51 := wf_free r_51
          refine lv_istore (lv' := [(4, .int r_51), (3, .int x_43), (2, .int v_1), (0, .ref h), (1, .ref o)]) G0.1 G0.2.1 dX7_moveIntoEmpty_45 hl (by decide) rfl (fun ls hl => ?_)
          refine lv_iload G0.1 G0.2.1 dX7_moveIntoEmpty_47 (lv_at hl 0 rfl) ?_
          refine lv_if_le (tgt := 82) G0.1 G0.2.1 dX7_moveIntoEmpty_49 (by decide) (fun c_52 => ?_) (fun c_52 => ?_)
          · skip
            have tc_52 := ti_le c_52
            obtain ⟨x_53, ex_53⟩ : ∃ y : Int32, y = v_1 + 1 := ⟨_, rfl⟩
            first | have tx_53 := ti_add ex_53 (by omega) (by omega) | skip
            refine lv_iinc (v := x_53) (lv' := [(2, .int x_53), (4, .int r_51), (3, .int x_43), (0, .ref h), (1, .ref o)]) G0.1 G0.2.1 dX7_moveIntoEmpty_82 hl (k := 2) rfl (show _ + (1 : Int32) = _ from ex_53.symm) (by decide) rfl (fun ls hl => ?_)
            refine lv_goto (tgt := 2) G0.1 G0.2.1 dX7_moveIntoEmpty_85 (by decide) ?_
            exact ih_2 ((2147483647 - x_53.toInt).toNat) (by omega) x_53 _ _ ls rfl ⟨by omega, by omega⟩ hw (lv_sub hl [0, 3, 4] rfl)
          · skip
            have tc_52 := ti_nle c_52
            refine lv_aload_n G0.1 G0.2.1 dX7_moveIntoEmpty_52 rfl (lv_at hl 4 rfl) ?_
            refine lv_iload_n G0.1 G0.2.1 dX7_moveIntoEmpty_53 rfl (lv_at hl 2 rfl) ?_
            refine lv_iload_n G0.1 G0.2.1 dX7_moveIntoEmpty_54 rfl (lv_at hl 1 rfl) ?_
            refine lv_aload_n G0.1 G0.2.1 dX7_moveIntoEmpty_55 rfl (lv_at hl 4 rfl) ?_
            refine lv_iload_n G0.1 G0.2.1 dX7_moveIntoEmpty_56 rfl (lv_at hl 1 rfl) ?_
            refine lv_aload_n G0.1 G0.2.1 dX7_moveIntoEmpty_57 rfl (lv_at hl 3 rfl) ?_
            obtain ⟨t_54, t_55, t_56⟩ := wt_7 hG Th
            obtain ⟨v_57, v_58, hr_60, b_59⟩ := wg_7 hWF Th
            have bv_57 := wf_free v_57
            refine py_get (C := RX7) (T := TX7) (N := 5) (k := 4) (v := .int v_58) G0 hw in_X7_moveIntoEmpty_X7 rfl hr_60 (by decide) (by decide +kernel) rfl dX7_moveIntoEmpty_58 ?_
            have jn_74 : ∀ (v_61 : Int32) (L_j74 : List Nat) (f_j74 : py_F) (H_j74 : Heap) (locs : List Loc) (ls : Array Slot), WF E G L_j74 f_j74 → RP E G f f_j74 → KP G [3, 26, 37] true f f_j74 → DV G f_j74 o (fv_f f o) → py_W E (va_A (va_pl L f) s.heap.size) s L_j74 f_j74 H_j74 locs → lv_has ls 5 [(4, .int r_51), (3, .int x_43), (2, .int v_1), (0, .ref h), (1, .ref o)] → W p l e (headSpec w_X7_moveIntoEmpty ({ frames := 2, cells := 0, slots := 0, locals := 47 })).room s m ([.ref h, .ref o] : List Value).toArray below meth c H_j74 locs 0 0 (MQ below (py_Qi E L f s.heap.size (fun _ L1 f1 => (DV G f1 o (fv_f f o)) ∧ WF E G L1 f1 ∧ RP E G f f1 ∧ KP G [3, 26, 37] true f f1)) ([.ref h, .ref o] : List Value).toArray s 0 0 (va_A (va_pl L f) s.heap.size)) (F0 m 74 ls [.int v_61, .int x_43, .ref o, .int x_43, .int v_1, .ref o]) := by
              intro v_61 L_j74 f_j74 H_j74 locs ls hWF hRP hKP hDV hw hl
              obtain ⟨r_62, y_63, v_64, hr_67, ty_65, b_66⟩ := wg_2 hWF To
              have tq_68 := fo_eq hr_67
              have tq_69 := fv_now hRP hKP (by decide) hWF To
              refine py_calli hw (va_runV (As := [.int x_43, .int v_61]) (rest := [.int x_43, .int v_1, .ref o]) G0 (c_X2_emptyHut l E G L_j74 f_j74 H_j74.size o x_43 v_61 hG hWF To ⟨by omega, by omega⟩) (cwV 2 G0.2.2.2.2 g_X7_moveIntoEmpty_X2_emptyHut_136 rfl rfl rfl (by decide +kernel) ⟨(Nat.le_of_ble_eq_true rfl), (Nat.le_of_ble_eq_true rfl)⟩) (py_preV hw (C := RX2) (T := TX2) (N := 12) rfl hr_67) rfl rfl hl.1 rfl (lv_room (Nat.le_of_ble_eq_true rfl)) dX7_moveIntoEmpty_74 ⟨(Nat.le_of_ble_eq_true rfl), (Nat.le_of_ble_eq_true rfl)⟩) (fun r_74 L_70 f_71 H_72 locs hp_73 hw => ?_)
              obtain ⟨rfl, rfl⟩ := hp_73
              have br_74 := wf_free r_74
              refine py_callv hw (va_runV (As := [.int v_1, .int x_43, .int r_74]) (rest := []) G0 (c_X2_move l E G L_j74 f_j74 H_72.size o v_1 x_43 r_74 hG hWF To ⟨by omega, by omega⟩ ⟨by omega, by omega⟩) (cwV 3 G0.2.2.2.2 g_X7_moveIntoEmpty_X2_move_139 rfl rfl rfl (by decide +kernel) ⟨(Nat.le_of_ble_eq_true rfl), (Nat.le_of_ble_eq_true rfl)⟩) (py_preV hw (C := RX2) (T := TX2) (N := 12) rfl hr_67) rfl rfl hl.1 rfl (lv_room (Nat.le_of_ble_eq_true rfl)) dX7_moveIntoEmpty_77 ⟨(Nat.le_of_ble_eq_true rfl), (Nat.le_of_ble_eq_true rfl)⟩) (fun L_75 f_76 H_77 locs hp_78 hw => ?_)
              obtain ⟨en_80, hWF, hq_81, kp_82⟩ := hp_78
              have hRP := hRP.trans hq_81
              have hKP := hKP.trans kp_82 (by decide) (by decide)
              have hr_67 := kp_at kp_82 hWF To (by decide) (by decide) (by decide) hr_67
              have tq_83 := fo_eq hr_67
              have tq_84 := fv_now hRP hKP (by decide) hWF To
              have hDV := hDV.mv en_80 (by omega) (by omega)
              refine lv_iconst (v := 1) G0.1 G0.2.1 dX7_moveIntoEmpty_80 (by decide) ?_
              exact py_iret G0 hr rfl hlk hw ⟨hDV, hWF, hRP, hKP⟩ dX7_moveIntoEmpty_81
            refine lv_if_eq (tgt := 73) G0.1 G0.2.1 dX7_moveIntoEmpty_61 (by decide) (fun c_85 => ?_) (fun c_85 => ?_)
            · skip
              have tc_85 := ti_eq c_85
              refine lv_iconst (v := 0) G0.1 G0.2.1 dX7_moveIntoEmpty_73 (by decide) ?_
              exact jn_74 0 L f _ _ ls hWF hRP hKP hDV hw (lv_sub hl [0, 1, 2, 3, 4] rfl)
            · skip
              have tc_85 := ti_ne c_85
              refine lv_aload_n G0.1 G0.2.1 dX7_moveIntoEmpty_64 rfl (lv_at hl 4 rfl) ?_
              refine lv_iload G0.1 G0.2.1 dX7_moveIntoEmpty_65 (lv_at hl 0 rfl) ?_
              refine py_calli hw (va_runV (As := [.int r_51]) (rest := [.int x_43, .ref o, .int x_43, .int v_1, .ref o]) G0 (c_X2_draw l E G L f H_49.size o r_51 hG hWF To) (cwV 1 G0.2.2.2.2 g_X7_moveIntoEmpty_X2_draw_100 rfl rfl rfl (by decide +kernel) ⟨(Nat.le_of_ble_eq_true rfl), (Nat.le_of_ble_eq_true rfl)⟩) (py_preV hw (C := RX2) (T := TX2) (N := 12) rfl hr_16) rfl rfl hl.1 rfl (lv_room (Nat.le_of_ble_eq_true rfl)) dX7_moveIntoEmpty_67 ⟨(Nat.le_of_ble_eq_true rfl), (Nat.le_of_ble_eq_true rfl)⟩) (fun r_90 L_86 f_87 H_88 locs hp_89 hw => ?_)
              obtain ⟨hWF, hq_91, kp_92⟩ := hp_89
              have hDV := hDV.kp hG To kp_92 (by decide) (by decide)
              have hRP := hRP.trans hq_91
              have hKP := hKP.trans kp_92 (by decide) (by decide)
              have hr_30 := kp_at kp_92 hWF ty_14 (by decide) (by decide) (by decide) hr_30
              have tq_93 := va_eq hr_30
              have hr_60 := kp_at kp_92 hWF Th (by decide) (by decide) (by decide) hr_60
              have ha_39 := kp_at kp_92 hWF t_5 (by decide) (by decide) (by decide) ha_39
              have br_90 := wf_free r_90
              refine lv_goto (tgt := 74) G0.1 G0.2.1 dX7_moveIntoEmpty_70 (by decide) ?_
              exact jn_74 r_90 L_86 f_87 _ _ ls hWF hRP hKP hDV hw (lv_sub hl [0, 1, 2, 3, 4] rfl)
        · skip
          have tc_46 := ti_eq c_46
          refine lv_iconst (v := 0) G0.1 G0.2.1 dX7_moveIntoEmpty_36 (by decide) ?_
          refine lv_goto (tgt := 45) G0.1 G0.2.1 dX7_moveIntoEmpty_37 (by decide) ?_
          refine lv_istore (lv' := [(4, .int 0), (3, .int x_43), (2, .int v_1), (0, .ref h), (1, .ref o)]) G0.1 G0.2.1 dX7_moveIntoEmpty_45 hl (by decide) rfl (fun ls hl => ?_)
          refine lv_iload G0.1 G0.2.1 dX7_moveIntoEmpty_47 (lv_at hl 0 rfl) ?_
          refine lv_if_le (tgt := 82) G0.1 G0.2.1 dX7_moveIntoEmpty_49 (by decide) (fun c_94 => ?_) (fun c_94 => ?_)
          · skip
            have tc_94 := ti_le c_94
            obtain ⟨x_95, ex_95⟩ : ∃ y : Int32, y = v_1 + 1 := ⟨_, rfl⟩
            first | have tx_95 := ti_add ex_95 (by omega) (by omega) | skip
            refine lv_iinc (v := x_95) (lv' := [(2, .int x_95), (4, .int 0), (3, .int x_43), (0, .ref h), (1, .ref o)]) G0.1 G0.2.1 dX7_moveIntoEmpty_82 hl (k := 2) rfl (show _ + (1 : Int32) = _ from ex_95.symm) (by decide) rfl (fun ls hl => ?_)
            refine lv_goto (tgt := 2) G0.1 G0.2.1 dX7_moveIntoEmpty_85 (by decide) ?_
            exact ih_2 ((2147483647 - x_95.toInt).toNat) (by omega) x_95 _ _ ls rfl ⟨by omega, by omega⟩ hw (lv_sub hl [0, 3, 4] rfl)
          · skip
            exact absurd c_94 (by decide)
  exact lo_2 _ 0 _ _ ls rfl ⟨by omega, by omega⟩ hw (lv_sub hl [0, 1, 2] rfl)

def w_X7_changeHuts : List Cond := .code yX7_changeHuts cX7_changeHuts 8 (some .int) :: ([Cond.fieldLink RX7 22 "HeadYear$Seasons" "ring" "[I", Cond.methodLink RX7 149 yX7_nextOf, Cond.static yX7_nextOf, Cond.initialized RX7, Cond.fieldLink RX7 86 "HeadYear$Folk" "level" "[I", Cond.fieldLink RX7 152 "HeadYear$Folk" "hut" "[I", Cond.methodLink RX7 139 yX2_move, Cond.instanceMethod yX2_move, Cond.selects RX2 yX2_move yX2_move, Cond.initialized RX2] ++ (u_ws RX7 TX7 5 ++ (u_ws RX2 TX2 12 ++ (w_X7_nextOf ++ (w_X2_move ++ ([]))))))
theorem in_X7_changeHuts_X7 : ∀ w ∈ u_ws RX7 TX7 5, w ∈ w_X7_changeHuts := fun _ h => List.mem_cons_of_mem _ (List.mem_append_right _ (List.mem_append_left _ h))
theorem in_X7_changeHuts_X2 : ∀ w ∈ u_ws RX2 TX2 12, w ∈ w_X7_changeHuts := fun _ h => List.mem_cons_of_mem _ (List.mem_append_right _ (List.mem_append_right _ (List.mem_append_left _ h)))
theorem gg_X7_changeHuts_X7_nextOf : GoodIn w_X7_changeHuts w_X7_nextOf := goodIn_sub (fun _ h => List.mem_cons_of_mem _ (List.mem_append_right _ (List.mem_append_right _ (List.mem_append_right _ (List.mem_append_left _ h))))) (by decide +kernel)
theorem gg_X7_changeHuts_X2_move : GoodIn w_X7_changeHuts w_X2_move := goodIn_sub (fun _ h => List.mem_cons_of_mem _ (List.mem_append_right _ (List.mem_append_right _ (List.mem_append_right _ (List.mem_append_right _ (List.mem_append_left _ h)))))) (by decide +kernel)
theorem g_X7_changeHuts_X2_move_139 : GoodIn w_X7_changeHuts (wsV RX7 139 RX2 yX2_move w_X2_move) := goodIn_app (goodIn_of _ (by decide +kernel)) gg_X7_changeHuts_X2_move
theorem g_X7_changeHuts_X7_nextOf_149 : GoodIn w_X7_changeHuts (va_wsS RX7 149 yX7_nextOf w_X7_nextOf) := goodIn_app (goodIn_of _ (by decide +kernel)) gg_X7_changeHuts_X7_nextOf
set_option maxHeartbeats 4000000 in
set_option maxRecDepth 100000 in
theorem c_X7_changeHuts (l : Launch) (E : py_E) (G : wf_G) (L : List Nat) (f : py_F) (sz : Nat) (h : Nat) (o : Nat) (a : Int32) (hG : GT G) (hWF : WF E G L f) (Th : G.1 h = 8) (To : G.1 o = 3) (Ba : (0 ≤ a.toInt ∧ a.toInt ≤ 9)) (hp0 : ari f (G.2 o 3) a ≠ 0 ∧ a.toInt < fv_f f o) (hq0 : DV G f o (fv_f f o)) : Met l yX7_changeHuts w_X7_changeHuts ({ frames := 1, cells := 0, slots := 0, locals := 23 }) (py_Pc E [.ref h, .ref o, .int a] L f sz) (py_Qi E L f sz (fun _ L1 f1 => (DV G f1 o (fv_f f o)) ∧ WF E G L1 f1 ∧ RP E G f f1 ∧ KP G [33, 26, 37] true f f1)) 0 0 (va_A (va_pl L f) sz) := by
  refine Met.ofW (cc := cX7_changeHuts) (maxL := 8) (ret := (some .int)) (by decide) rfl ?_
  intro p e s m args below meth c s₁ B hml hv
  obtain ⟨rfl, rfl, hw⟩ := py_start hv
  have G0 : CallFix p m c cX7_changeHuts 8 s _ w_X7_changeHuts RX7 := ⟨B.exec, B.bytes, hml, findClass_of_methodNamed B.named, atoms_spec (ws := w_X7_changeHuts) B.pre⟩
  have hr := B.returns
  have hlk := B.notSynchronized
  have kcm1 : (-1 : Int32).toInt = -1 := rfl
  have kc0 : (0 : Int32).toInt = 0 := rfl
  have kc1 : (1 : Int32).toInt = 1 := rfl
  have kc10 : (10 : Int32).toInt = 10 := rfl
  have hl := lv_entry ([.ref h, .ref o, .int a]) (n := 8) (Nat.le_of_ble_eq_true rfl)
  rw [lg_entry_eq]
  generalize (lg_sl ([.ref h, .ref o, .int a]) ++ List.replicate (8 - (lg_sl ([.ref h, .ref o, .int a])).length) Slot.unset).toArray = ls at hl ⊢
  have hl : lv_has ls 8 [(0, .ref h), (1, .ref o), (2, .int a)] := hl
  have hRP : RP E G f f := RP.refl
  have hKP : KP G [33, 26, 37] true f f := KP.refl
  have hDV := hq0
  refine lv_iconst (v := 0) G0.1 G0.2.1 dX7_changeHuts_0 (by decide) ?_
  refine lv_istore_n (lv' := [(3, .int 0), (0, .ref h), (1, .ref o), (2, .int a)]) G0.1 G0.2.1 dX7_changeHuts_1 rfl hl (by decide) rfl (fun ls hl => ?_)
  refine lv_iload_n G0.1 G0.2.1 dX7_changeHuts_2 rfl (lv_at hl 3 rfl) ?_
  refine lv_istore (lv' := [(4, .int a), (3, .int 0), (0, .ref h), (1, .ref o), (2, .int a)]) G0.1 G0.2.1 dX7_changeHuts_3 hl (by decide) rfl (fun ls hl => ?_)
  have lo_5 : ∀ n_5 : Nat, ∀ (v_1 : Int32) (v_2 : Int32) (L_j5 : List Nat) (f_j5 : py_F) (H_j5 : Heap) (locs : List Loc) (ls : Array Slot), (10 - v_2.toInt).toNat = n_5 → (0 ≤ v_1.toInt ∧ v_1.toInt ≤ 9) → (0 ≤ v_2.toInt ∧ v_2.toInt ≤ 9) → WF E G L_j5 f_j5 → RP E G f f_j5 → KP G [33, 26, 37] true f f_j5 → DV G f_j5 o (fv_f f o) → (RG G f_j5 h o v_2.toInt) → (ari f_j5 (G.2 o 3) v_1 ≠ 0 ∧ v_1.toInt < fv_f f o) → (ari f_j5 (G.2 o 3) a ≠ 0) → py_W E (va_A (va_pl L f) s.heap.size) s L_j5 f_j5 H_j5 locs → lv_has ls 8 [(4, .int v_1), (3, .int v_2), (0, .ref h), (1, .ref o), (2, .int a)] → W p l e (headSpec w_X7_changeHuts ({ frames := 1, cells := 0, slots := 0, locals := 23 })).room s m ([.ref h, .ref o, .int a] : List Value).toArray below meth c H_j5 locs 0 0 (MQ below (py_Qi E L f s.heap.size (fun _ L1 f1 => (DV G f1 o (fv_f f o)) ∧ WF E G L1 f1 ∧ RP E G f f1 ∧ KP G [33, 26, 37] true f f1)) ([.ref h, .ref o, .int a] : List Value).toArray s 0 0 (va_A (va_pl L f) s.heap.size)) (F0 m 5 ls []) := by
    intro n_5
    induction n_5 using Nat.strongRecOn with
    | _ n_5 ih_5 =>
      intro v_1 v_2 L_j5 f_j5 H_j5 locs ls hn_5 bv_1 bv_2 hWF hRP hKP hDV iv0 iv1 iv2 hw hl
      have hRG := iv0
      refine lv_aload_n G0.1 G0.2.1 dX7_changeHuts_5 rfl (lv_at hl 2 rfl) ?_
      obtain ⟨t_3, t_4, t_5⟩ := wt_7 hG Th
      obtain ⟨v_6, v_7, hr_9, b_8⟩ := wg_7 hWF Th
      have bv_6 := wf_free v_6
      refine py_get (C := RX7) (T := TX7) (N := 5) (k := 2) (v := .ref (G.2 h 2)) G0 hw in_X7_changeHuts_X7 rfl hr_9 (by decide) (by decide +kernel) rfl dX7_changeHuts_6 ?_
      have hdi := hDV v_1 (by omega) (by omega)
      refine lv_iload_n G0.1 G0.2.1 dX7_changeHuts_9 rfl (lv_at hl 1 rfl) ?_
      refine lv_iload G0.1 G0.2.1 dX7_changeHuts_10 (lv_at hl 0 rfl) ?_
      obtain ⟨g_10, ha_11, hi_12⟩ := wf_arr (n := 10) (lo := 0) (hi := 9) hWF t_5 (by decide) (fun _ => rfl)
      have rg_13 : vp_in v_2 10 := ti_in (by omega) (by omega)
      refine py_iast G0 hw ha_11 rg_13 dX7_changeHuts_12 (fun f_14 H_15 locs h_16 x_17 hw => ?_)
      have hkw : KP G [33] false f_j5 f_14 := KP.refl.upd hWF x_17 t_5 (Or.inl (by decide))
      have hDV := hDV.kp hG To (KP.refl.upd hWF x_17 t_5 (Or.inl (by decide)) : KP G [33] false f_j5 f_14) (by decide) (by decide)
      obtain ⟨t_18, t_19, t_20, t_21, t_22, t_23, t_24, t_25, t_26⟩ := wt_2 hG To
      have aq_27 := ari_kp (x_17 _ (hWF _ (by rw [t_21]; omega)).1 (wf_ne t_21 t_5 (by omega))).2 v_1
      have aq_28 := ari_kp (x_17 _ (hWF _ (by rw [t_21]; omega)).1 (wf_ne t_21 t_5 (by omega))).2 a
      have aq_29 := ari_kp (x_17 _ (hWF _ (by rw [t_19]; omega)).1 (wf_ne t_19 t_5 (by omega))).2 v_1
      have hKP := hKP.upd hWF x_17 t_5 (Or.inl (by decide))
      have hRP := hRP.trans (rp_upd hG hWF x_17 ha_11.2 h_16.2 (rp_code hG t_5 (by decide)) rfl)
      have hi_30 := wf_inu (k := (v_2 : Int32).toNatClampNeg) (x := v_1) hi_12 (by omega) (by omega)
      have hWF := wf_upd hWF h_16 x_17 (by rw [t_5]; exact ⟨_, rfl, hi_30⟩)
      have hr_9 := hr_9.ext x_17 (py_ne_arr hr_9 ha_11)
      have hRG := hRG.step ha_11 h_16 (x_17 (G.2 o 1) (hWF (G.2 o 1) (by rw [t_19]; omega)).1 (wf_ne t_19 t_5 (by omega))).2 (by omega) (by omega) (by omega)
      obtain ⟨x_31, ex_31⟩ : ∃ y : Int32, y = v_2 + 1 := ⟨_, rfl⟩
      first | have tx_31 := ti_add ex_31 (by omega) (by omega) | skip
      refine lv_iinc (v := x_31) (lv' := [(3, .int x_31), (4, .int v_1), (0, .ref h), (1, .ref o), (2, .int a)]) G0.1 G0.2.1 dX7_changeHuts_13 hl (k := 1) rfl (show _ + (1 : Int32) = _ from ex_31.symm) (by decide) rfl (fun ls hl => ?_)
      refine lv_aload_n G0.1 G0.2.1 dX7_changeHuts_16 rfl (lv_at hl 3 rfl) ?_
      refine lv_iload G0.1 G0.2.1 dX7_changeHuts_17 (lv_at hl 1 rfl) ?_
      refine py_calli hw (va_runS (As := [.ref o, .int v_1]) (rest := []) G0 (c_X7_nextOf l E G L_j5 f_14 H_15.size o v_1 hG hWF To ⟨by omega, by omega⟩) (va_cwS 2 G0.2.2.2.2 g_X7_changeHuts_X7_nextOf_149 rfl rfl rfl (by decide +kernel) ⟨(Nat.le_of_ble_eq_true rfl), (Nat.le_of_ble_eq_true rfl)⟩) (py_preS hw) rfl rfl hl.1 rfl (lv_room (Nat.le_of_ble_eq_true rfl)) dX7_changeHuts_19 ⟨(Nat.le_of_ble_eq_true rfl), (Nat.le_of_ble_eq_true rfl)⟩) (fun r_36 L_32 f_33 H_34 locs hp_35 hw => ?_)
      obtain ⟨b_38, en_37, rfl, rfl⟩ := hp_35
      refine lv_istore (lv' := [(4, .int r_36), (3, .int x_31), (0, .ref h), (1, .ref o), (2, .int a)]) G0.1 G0.2.1 dX7_changeHuts_22 hl (by decide) rfl (fun ls hl => ?_)
      have hnw := fv_now hRP hKP (by decide) hWF To
      refine lv_iload_n G0.1 G0.2.1 dX7_changeHuts_24 rfl (lv_at hl 1 rfl) ?_
      refine lv_aload_n G0.1 G0.2.1 dX7_changeHuts_25 rfl (lv_at hl 2 rfl) ?_
      refine py_get (C := RX7) (T := TX7) (N := 5) (k := 2) (v := .ref (G.2 h 2)) G0 hw in_X7_changeHuts_X7 rfl hr_9 (by decide) (by decide +kernel) rfl dX7_changeHuts_26 ?_
      refine py_alen (v := 10) G0 hw h_16 rfl dX7_changeHuts_29 ?_
      refine lv_icmp_ge (tgt := 45) G0.1 G0.2.1 dX7_changeHuts_30 (by decide) (fun c_39 => ?_) (fun c_39 => ?_)
      · skip
        have tc_39 := ti_le c_39
        refine lv_aload_n G0.1 G0.2.1 dX7_changeHuts_45 rfl (lv_at hl 3 rfl) ?_
        obtain ⟨r_40, y_41, v_42, hr_45, ty_43, b_44⟩ := wg_2 hWF To
        have tq_46 := fo_eq hr_45
        have tq_47 := fv_now hRP hKP (by decide) hWF To
        refine py_get (C := RX2) (T := TX2) (N := 12) (k := 1) (v := .ref (G.2 o 1)) G0 hw in_X7_changeHuts_X2 rfl hr_45 (by decide) (by decide +kernel) rfl dX7_changeHuts_46 ?_
        refine lv_iload_n G0.1 G0.2.1 dX7_changeHuts_49 rfl (lv_at hl 4 rfl) ?_
        have hdf := hDV a (by omega) (by omega)
        obtain ⟨g_48, ha_49, hi_50⟩ := wf_arr (n := 10) (lo := (-1)) (hi := 7) hWF t_19 (by omega) (wf_own1 E G _ o)
        have rg_51 : vp_in a 10 := ti_in (by omega) (by omega)
        refine py_iald G0 hw ha_49 rg_51 dX7_changeHuts_50 ?_
        refine lv_topi (fun x_52 ex_52 => ?_)
        have bx_52 := ti_at hi_50 rg_51 ex_52
        have qx_52 := ari_ld ha_49 ex_52
        refine lv_istore (lv' := [(5, .int x_52), (4, .int r_36), (3, .int x_31), (0, .ref h), (1, .ref o), (2, .int a)]) G0.1 G0.2.1 dX7_changeHuts_51 hl (by decide) rfl (fun ls hl => ?_)
        refine lv_aload_n G0.1 G0.2.1 dX7_changeHuts_53 rfl (lv_at hl 4 rfl) ?_
        refine py_get (C := RX2) (T := TX2) (N := 12) (k := 2) (v := .ref (G.2 o 2)) G0 hw in_X7_changeHuts_X2 rfl hr_45 (by decide) (by decide +kernel) rfl dX7_changeHuts_54 ?_
        refine lv_iload_n G0.1 G0.2.1 dX7_changeHuts_57 rfl (lv_at hl 5 rfl) ?_
        obtain ⟨g_53, ha_54, hi_55⟩ := wf_arr (n := 10) (lo := (-2147483648)) (hi := 2147483647) hWF t_20 (by decide) (fun _ => rfl)
        have rg_56 : vp_in a 10 := ti_in (by omega) (by omega)
        refine py_iald G0 hw ha_54 rg_56 dX7_changeHuts_58 ?_
        refine lv_topi (fun x_57 ex_57 => ?_)
        have bx_57 := wf_free x_57
        have qx_57 := ari_ld ha_54 ex_57
        refine lv_istore (lv' := [(6, .int x_57), (5, .int x_52), (4, .int r_36), (3, .int x_31), (0, .ref h), (1, .ref o), (2, .int a)]) G0.1 G0.2.1 dX7_changeHuts_59 hl (by decide) rfl (fun ls hl => ?_)
        refine lv_iconst (v := 0) G0.1 G0.2.1 dX7_changeHuts_61 (by decide) ?_
        refine lv_istore (lv' := [(7, .int 0), (6, .int x_57), (5, .int x_52), (4, .int r_36), (3, .int x_31), (0, .ref h), (1, .ref o), (2, .int a)]) G0.1 G0.2.1 dX7_changeHuts_62 hl (by decide) rfl (fun ls hl => ?_)
        have lo_64 : ∀ n_64 : Nat, ∀ (v_58 : Int32) (L_j64 : List Nat) (f_j64 : py_F) (H_j64 : Heap) (locs : List Loc) (ls : Array Slot), (2147483647 - v_58.toInt).toNat = n_64 → (0 ≤ v_58.toInt ∧ v_58.toInt ≤ 9) → WF E G L_j64 f_j64 → RP E G f f_j64 → KP G [33, 26, 37] true f f_j64 → DV G f_j64 o (fv_f f o) → (RG G f_j64 h o x_31.toInt) → py_W E (va_A (va_pl L f) s.heap.size) s L_j64 f_j64 H_j64 locs → lv_has ls 8 [(7, .int v_58), (6, .int x_57), (5, .int x_52), (4, .int r_36), (3, .int x_31), (0, .ref h), (1, .ref o), (2, .int a)] → W p l e (headSpec w_X7_changeHuts ({ frames := 1, cells := 0, slots := 0, locals := 23 })).room s m ([.ref h, .ref o, .int a] : List Value).toArray below meth c H_j64 locs 0 0 (MQ below (py_Qi E L f s.heap.size (fun _ L1 f1 => (DV G f1 o (fv_f f o)) ∧ WF E G L1 f1 ∧ RP E G f f1 ∧ KP G [33, 26, 37] true f f1)) ([.ref h, .ref o, .int a] : List Value).toArray s 0 0 (va_A (va_pl L f) s.heap.size)) (F0 m 64 ls []) := by
          intro n_64
          induction n_64 using Nat.strongRecOn with
          | _ n_64 ih_64 =>
            intro v_58 L_j64 f_j64 H_j64 locs ls hn_64 bv_58 hWF hRP hKP hDV iv0 hw hl
            have hRG := iv0
            refine lv_iload G0.1 G0.2.1 dX7_changeHuts_64 (lv_at hl 0 rfl) ?_
            refine lv_iconst (v := 1) G0.1 G0.2.1 dX7_changeHuts_66 (by decide) ?_
            refine lv_iadd G0.1 G0.2.1 dX7_changeHuts_67 ?_
            refine lv_topi (fun x_59 ex_59 => ?_)
            first | have tx_59 := ti_add ex_59 (by omega) (by omega) | skip
            refine lv_iload_n G0.1 G0.2.1 dX7_changeHuts_68 rfl (lv_at hl 4 rfl) ?_
            refine lv_icmp_ge (tgt := 117) G0.1 G0.2.1 dX7_changeHuts_69 (by decide) (fun c_60 => ?_) (fun c_60 => ?_)
            · skip
              have tc_60 := ti_le c_60
              refine lv_aload_n G0.1 G0.2.1 dX7_changeHuts_117 rfl (lv_at hl 6 rfl) ?_
              refine lv_aload_n G0.1 G0.2.1 dX7_changeHuts_118 rfl (lv_at hl 5 rfl) ?_
              obtain ⟨v_61, v_62, hr_64, b_63⟩ := wg_7 hWF Th
              have bv_61 := wf_free v_61
              refine py_get (C := RX7) (T := TX7) (N := 5) (k := 2) (v := .ref (G.2 h 2)) G0 hw in_X7_changeHuts_X7 rfl hr_64 (by decide) (by decide +kernel) rfl dX7_changeHuts_119 ?_
              refine lv_iload_n G0.1 G0.2.1 dX7_changeHuts_122 rfl (lv_at hl 4 rfl) ?_
              refine lv_iconst (v := 1) G0.1 G0.2.1 dX7_changeHuts_123 (by decide) ?_
              refine lv_isub G0.1 G0.2.1 dX7_changeHuts_124 ?_
              refine lv_topi (fun x_65 ex_65 => ?_)
              first | have tx_65 := ti_sub ex_65 (by omega) (by omega) | skip
              obtain ⟨g_66, ha_67, hi_68⟩ := wf_arr (n := 10) (lo := 0) (hi := 9) hWF t_5 (by decide) (fun _ => rfl)
              have rg_69 : vp_in x_65 10 := ti_in (by omega) (by omega)
              refine py_iald G0 hw ha_67 rg_69 dX7_changeHuts_125 ?_
              refine lv_topi (fun x_70 ex_70 => ?_)
              have bx_70 := ti_at hi_68 rg_69 ex_70
              have qx_70 := ari_ld ha_67 ex_70
              refine lv_iload G0.1 G0.2.1 dX7_changeHuts_126 (lv_at hl 2 rfl) ?_
              refine lv_iload G0.1 G0.2.1 dX7_changeHuts_128 (lv_at hl 1 rfl) ?_
              obtain ⟨r_71, y_72, v_73, hr_76, ty_74, b_75⟩ := wg_2 hWF To
              have tq_77 := fo_eq hr_76
              have tq_78 := fv_now hRP hKP (by decide) hWF To
              refine py_callv hw (va_runV (As := [.int x_70, .int x_52, .int x_57]) (rest := []) G0 (c_X2_move l E G L_j64 f_j64 H_j64.size o x_70 x_52 x_57 hG hWF To ⟨by omega, by omega⟩ ⟨by omega, by omega⟩) (cwV 3 G0.2.2.2.2 g_X7_changeHuts_X2_move_139 rfl rfl rfl (by decide +kernel) ⟨(Nat.le_of_ble_eq_true rfl), (Nat.le_of_ble_eq_true rfl)⟩) (py_preV hw (C := RX2) (T := TX2) (N := 12) rfl hr_76) rfl rfl hl.1 rfl (lv_room (Nat.le_of_ble_eq_true rfl)) dX7_changeHuts_130 ⟨(Nat.le_of_ble_eq_true rfl), (Nat.le_of_ble_eq_true rfl)⟩) (fun L_79 f_80 H_81 locs hp_82 hw => ?_)
              obtain ⟨en_84, hWF, hq_85, kp_86⟩ := hp_82
              have hRP := hRP.trans hq_85
              have hKP := hKP.trans kp_86 (by decide) (by decide)
              have hr_64 := kp_at kp_86 hWF Th (by decide) (by decide) (by decide) hr_64
              have hr_76 := kp_at kp_86 hWF To (by decide) (by decide) (by decide) hr_76
              have tq_87 := fo_eq hr_76
              have tq_88 := fv_now hRP hKP (by decide) hWF To
              have ha_67 := kp_at kp_86 hWF t_5 (by decide) (by decide) (by decide) ha_67
              have hRG := hRG.mv en_84 (kp_f kp_86 t_5 (by decide) (by decide) (fun _ => by decide)) (by omega)
              have hDV := hDV.mv en_84 (by omega) (by omega)
              refine lv_iload_n G0.1 G0.2.1 dX7_changeHuts_133 rfl (lv_at hl 4 rfl) ?_
              exact py_iret G0 hr rfl hlk hw ⟨hDV, hWF, hRP, hKP⟩ dX7_changeHuts_134
            · skip
              have tc_60 := ti_nle c_60
              refine lv_aload_n G0.1 G0.2.1 dX7_changeHuts_72 rfl (lv_at hl 6 rfl) ?_
              refine lv_aload_n G0.1 G0.2.1 dX7_changeHuts_73 rfl (lv_at hl 5 rfl) ?_
              obtain ⟨v_89, v_90, hr_92, b_91⟩ := wg_7 hWF Th
              have bv_89 := wf_free v_89
              refine py_get (C := RX7) (T := TX7) (N := 5) (k := 2) (v := .ref (G.2 h 2)) G0 hw in_X7_changeHuts_X7 rfl hr_92 (by decide) (by decide +kernel) rfl dX7_changeHuts_74 ?_
              refine lv_iload G0.1 G0.2.1 dX7_changeHuts_77 (lv_at hl 0 rfl) ?_
              obtain ⟨g_93, ha_94, hi_95⟩ := wf_arr (n := 10) (lo := 0) (hi := 9) hWF t_5 (by decide) (fun _ => rfl)
              have rg_96 : vp_in v_58 10 := ti_in (by omega) (by omega)
              refine py_iald G0 hw ha_94 rg_96 dX7_changeHuts_79 ?_
              refine lv_topi (fun x_97 ex_97 => ?_)
              have bx_97 := ti_at hi_95 rg_96 ex_97
              have qx_97 := ari_ld ha_94 ex_97
              refine lv_aload_n G0.1 G0.2.1 dX7_changeHuts_80 rfl (lv_at hl 6 rfl) ?_
              obtain ⟨r_98, y_99, v_100, hr_103, ty_101, b_102⟩ := wg_2 hWF To
              have tq_104 := fo_eq hr_103
              have tq_105 := fv_now hRP hKP (by decide) hWF To
              refine py_get (C := RX2) (T := TX2) (N := 12) (k := 1) (v := .ref (G.2 o 1)) G0 hw in_X7_changeHuts_X2 rfl hr_103 (by decide) (by decide +kernel) rfl dX7_changeHuts_81 ?_
              refine lv_aload_n G0.1 G0.2.1 dX7_changeHuts_84 rfl (lv_at hl 5 rfl) ?_
              refine py_get (C := RX7) (T := TX7) (N := 5) (k := 2) (v := .ref (G.2 h 2)) G0 hw in_X7_changeHuts_X7 rfl hr_92 (by decide) (by decide +kernel) rfl dX7_changeHuts_85 ?_
              refine lv_iload G0.1 G0.2.1 dX7_changeHuts_88 (lv_at hl 0 rfl) ?_
              refine lv_iconst (v := 1) G0.1 G0.2.1 dX7_changeHuts_90 (by decide) ?_
              refine lv_iadd G0.1 G0.2.1 dX7_changeHuts_91 ?_
              refine lv_topi (fun x_106 ex_106 => ?_)
              first | have tx_106 := ti_add ex_106 (by omega) (by omega) | skip
              have rg_107 : vp_in x_106 10 := ti_in (by omega) (by omega)
              refine py_iald G0 hw ha_94 rg_107 dX7_changeHuts_92 ?_
              refine lv_topi (fun x_108 ex_108 => ?_)
              have bx_108 := ti_at hi_95 rg_107 ex_108
              have qx_108 := ari_ld ha_94 ex_108
              have hrg := hRG x_106 (by omega) (by omega) x_108 (by omega)
              obtain ⟨g_109, ha_110, hi_111⟩ := wf_arr (n := 10) (lo := (-1)) (hi := 7) hWF t_19 (by omega) (wf_own1 E G _ o)
              have rg_112 : vp_in x_108 10 := ti_in (by omega) (by omega)
              refine py_iald G0 hw ha_110 rg_112 dX7_changeHuts_93 ?_
              refine lv_topi (fun x_113 ex_113 => ?_)
              have bx_113 := ti_at hi_111 rg_112 ex_113
              have qx_113 := ari_ld ha_110 ex_113
              refine lv_aload_n G0.1 G0.2.1 dX7_changeHuts_94 rfl (lv_at hl 6 rfl) ?_
              refine py_get (C := RX2) (T := TX2) (N := 12) (k := 2) (v := .ref (G.2 o 2)) G0 hw in_X7_changeHuts_X2 rfl hr_103 (by decide) (by decide +kernel) rfl dX7_changeHuts_95 ?_
              refine lv_aload_n G0.1 G0.2.1 dX7_changeHuts_98 rfl (lv_at hl 5 rfl) ?_
              refine py_get (C := RX7) (T := TX7) (N := 5) (k := 2) (v := .ref (G.2 h 2)) G0 hw in_X7_changeHuts_X7 rfl hr_92 (by decide) (by decide +kernel) rfl dX7_changeHuts_99 ?_
              refine lv_iload G0.1 G0.2.1 dX7_changeHuts_102 (lv_at hl 0 rfl) ?_
              refine lv_iconst (v := 1) G0.1 G0.2.1 dX7_changeHuts_104 (by decide) ?_
              refine lv_iadd G0.1 G0.2.1 dX7_changeHuts_105 ?_
              refine lv_topi (fun x_114 ex_114 => ?_)
              first | have tx_114 := ti_add ex_114 (by omega) (by omega) | skip
              have rg_115 : vp_in x_114 10 := ti_in (by omega) (by omega)
              refine py_iald G0 hw ha_94 rg_115 dX7_changeHuts_106 ?_
              refine lv_topi (fun x_116 ex_116 => ?_)
              have bx_116 := ti_at hi_95 rg_115 ex_116
              have qx_116 := ari_ld ha_94 ex_116
              obtain ⟨g_117, ha_118, hi_119⟩ := wf_arr (n := 10) (lo := (-2147483648)) (hi := 2147483647) hWF t_20 (by decide) (fun _ => rfl)
              have rg_120 : vp_in x_116 10 := ti_in (by omega) (by omega)
              refine py_iald G0 hw ha_118 rg_120 dX7_changeHuts_107 ?_
              refine lv_topi (fun x_121 ex_121 => ?_)
              have bx_121 := wf_free x_121
              have qx_121 := ari_ld ha_118 ex_121
              refine py_callv hw (va_runV (As := [.int x_97, .int x_113, .int x_121]) (rest := []) G0 (c_X2_move l E G L_j64 f_j64 H_j64.size o x_97 x_113 x_121 hG hWF To ⟨by omega, by omega⟩ ⟨by omega, by omega⟩) (cwV 3 G0.2.2.2.2 g_X7_changeHuts_X2_move_139 rfl rfl rfl (by decide +kernel) ⟨(Nat.le_of_ble_eq_true rfl), (Nat.le_of_ble_eq_true rfl)⟩) (py_preV hw (C := RX2) (T := TX2) (N := 12) rfl hr_103) rfl rfl hl.1 rfl (lv_room (Nat.le_of_ble_eq_true rfl)) dX7_changeHuts_108 ⟨(Nat.le_of_ble_eq_true rfl), (Nat.le_of_ble_eq_true rfl)⟩) (fun L_122 f_123 H_124 locs hp_125 hw => ?_)
              obtain ⟨en_127, hWF, hq_128, kp_129⟩ := hp_125
              have hRP := hRP.trans hq_128
              have hKP := hKP.trans kp_129 (by decide) (by decide)
              have hr_92 := kp_at kp_129 hWF Th (by decide) (by decide) (by decide) hr_92
              have hr_103 := kp_at kp_129 hWF To (by decide) (by decide) (by decide) hr_103
              have tq_130 := fo_eq hr_103
              have tq_131 := fv_now hRP hKP (by decide) hWF To
              have ha_94 := kp_at kp_129 hWF t_5 (by decide) (by decide) (by decide) ha_94
              have hRG := hRG.mv en_127 (kp_f kp_129 t_5 (by decide) (by decide) (fun _ => by decide)) (by omega)
              have hDV := hDV.mv en_127 (by omega) (by omega)
              obtain ⟨x_132, ex_132⟩ : ∃ y : Int32, y = v_58 + 1 := ⟨_, rfl⟩
              first | have tx_132 := ti_add ex_132 (by omega) (by omega) | skip
              refine lv_iinc (v := x_132) (lv' := [(7, .int x_132), (6, .int x_57), (5, .int x_52), (4, .int r_36), (3, .int x_31), (0, .ref h), (1, .ref o), (2, .int a)]) G0.1 G0.2.1 dX7_changeHuts_111 hl (k := 0) rfl (show _ + (1 : Int32) = _ from ex_132.symm) (by decide) rfl (fun ls hl => ?_)
              refine lv_goto (tgt := 64) G0.1 G0.2.1 dX7_changeHuts_114 (by decide) ?_
              exact ih_64 ((2147483647 - x_132.toInt).toNat) (by omega) x_132 L_122 f_123 _ _ ls rfl ⟨by omega, by omega⟩ hWF hRP hKP hDV (hRG.cast (by omega)) hw (lv_sub hl [0, 1, 2, 3, 4, 5, 6, 7] rfl)
        exact lo_64 _ 0 L_j5 f_14 _ _ ls rfl ⟨by omega, by omega⟩ hWF hRP hKP hDV (hRG.cast (by omega)) hw (lv_sub hl [0, 1, 2, 3, 4, 5, 6, 7] rfl)
      · skip
        have tc_39 := ti_nle c_39
        refine lv_iload G0.1 G0.2.1 dX7_changeHuts_33 (lv_at hl 0 rfl) ?_
        refine lv_iload_n G0.1 G0.2.1 dX7_changeHuts_35 rfl (lv_at hl 4 rfl) ?_
        refine lv_icmp_eq (tgt := 45) G0.1 G0.2.1 dX7_changeHuts_36 (by decide) (fun c_133 => ?_) (fun c_133 => ?_)
        · skip
          have tc_133 := ti_eq c_133
          refine lv_aload_n G0.1 G0.2.1 dX7_changeHuts_45 rfl (lv_at hl 3 rfl) ?_
          obtain ⟨r_134, y_135, v_136, hr_139, ty_137, b_138⟩ := wg_2 hWF To
          have tq_140 := fo_eq hr_139
          have tq_141 := fv_now hRP hKP (by decide) hWF To
          refine py_get (C := RX2) (T := TX2) (N := 12) (k := 1) (v := .ref (G.2 o 1)) G0 hw in_X7_changeHuts_X2 rfl hr_139 (by decide) (by decide +kernel) rfl dX7_changeHuts_46 ?_
          refine lv_iload_n G0.1 G0.2.1 dX7_changeHuts_49 rfl (lv_at hl 4 rfl) ?_
          have hdf := hDV a (by omega) (by omega)
          obtain ⟨g_142, ha_143, hi_144⟩ := wf_arr (n := 10) (lo := (-1)) (hi := 7) hWF t_19 (by omega) (wf_own1 E G _ o)
          have rg_145 : vp_in a 10 := ti_in (by omega) (by omega)
          refine py_iald G0 hw ha_143 rg_145 dX7_changeHuts_50 ?_
          refine lv_topi (fun x_146 ex_146 => ?_)
          have bx_146 := ti_at hi_144 rg_145 ex_146
          have qx_146 := ari_ld ha_143 ex_146
          refine lv_istore (lv' := [(5, .int x_146), (4, .int r_36), (3, .int x_31), (0, .ref h), (1, .ref o), (2, .int a)]) G0.1 G0.2.1 dX7_changeHuts_51 hl (by decide) rfl (fun ls hl => ?_)
          refine lv_aload_n G0.1 G0.2.1 dX7_changeHuts_53 rfl (lv_at hl 4 rfl) ?_
          refine py_get (C := RX2) (T := TX2) (N := 12) (k := 2) (v := .ref (G.2 o 2)) G0 hw in_X7_changeHuts_X2 rfl hr_139 (by decide) (by decide +kernel) rfl dX7_changeHuts_54 ?_
          refine lv_iload_n G0.1 G0.2.1 dX7_changeHuts_57 rfl (lv_at hl 5 rfl) ?_
          obtain ⟨g_147, ha_148, hi_149⟩ := wf_arr (n := 10) (lo := (-2147483648)) (hi := 2147483647) hWF t_20 (by decide) (fun _ => rfl)
          have rg_150 : vp_in a 10 := ti_in (by omega) (by omega)
          refine py_iald G0 hw ha_148 rg_150 dX7_changeHuts_58 ?_
          refine lv_topi (fun x_151 ex_151 => ?_)
          have bx_151 := wf_free x_151
          have qx_151 := ari_ld ha_148 ex_151
          refine lv_istore (lv' := [(6, .int x_151), (5, .int x_146), (4, .int r_36), (3, .int x_31), (0, .ref h), (1, .ref o), (2, .int a)]) G0.1 G0.2.1 dX7_changeHuts_59 hl (by decide) rfl (fun ls hl => ?_)
          refine lv_iconst (v := 0) G0.1 G0.2.1 dX7_changeHuts_61 (by decide) ?_
          refine lv_istore (lv' := [(7, .int 0), (6, .int x_151), (5, .int x_146), (4, .int r_36), (3, .int x_31), (0, .ref h), (1, .ref o), (2, .int a)]) G0.1 G0.2.1 dX7_changeHuts_62 hl (by decide) rfl (fun ls hl => ?_)
          have lo_64 : ∀ n_64 : Nat, ∀ (v_152 : Int32) (L_j64 : List Nat) (f_j64 : py_F) (H_j64 : Heap) (locs : List Loc) (ls : Array Slot), (2147483647 - v_152.toInt).toNat = n_64 → (0 ≤ v_152.toInt ∧ v_152.toInt ≤ 9) → WF E G L_j64 f_j64 → RP E G f f_j64 → KP G [33, 26, 37] true f f_j64 → DV G f_j64 o (fv_f f o) → (RG G f_j64 h o x_31.toInt) → py_W E (va_A (va_pl L f) s.heap.size) s L_j64 f_j64 H_j64 locs → lv_has ls 8 [(7, .int v_152), (6, .int x_151), (5, .int x_146), (4, .int r_36), (3, .int x_31), (0, .ref h), (1, .ref o), (2, .int a)] → W p l e (headSpec w_X7_changeHuts ({ frames := 1, cells := 0, slots := 0, locals := 23 })).room s m ([.ref h, .ref o, .int a] : List Value).toArray below meth c H_j64 locs 0 0 (MQ below (py_Qi E L f s.heap.size (fun _ L1 f1 => (DV G f1 o (fv_f f o)) ∧ WF E G L1 f1 ∧ RP E G f f1 ∧ KP G [33, 26, 37] true f f1)) ([.ref h, .ref o, .int a] : List Value).toArray s 0 0 (va_A (va_pl L f) s.heap.size)) (F0 m 64 ls []) := by
            intro n_64
            induction n_64 using Nat.strongRecOn with
            | _ n_64 ih_64 =>
              intro v_152 L_j64 f_j64 H_j64 locs ls hn_64 bv_152 hWF hRP hKP hDV iv0 hw hl
              have hRG := iv0
              refine lv_iload G0.1 G0.2.1 dX7_changeHuts_64 (lv_at hl 0 rfl) ?_
              refine lv_iconst (v := 1) G0.1 G0.2.1 dX7_changeHuts_66 (by decide) ?_
              refine lv_iadd G0.1 G0.2.1 dX7_changeHuts_67 ?_
              refine lv_topi (fun x_153 ex_153 => ?_)
              first | have tx_153 := ti_add ex_153 (by omega) (by omega) | skip
              refine lv_iload_n G0.1 G0.2.1 dX7_changeHuts_68 rfl (lv_at hl 4 rfl) ?_
              refine lv_icmp_ge (tgt := 117) G0.1 G0.2.1 dX7_changeHuts_69 (by decide) (fun c_154 => ?_) (fun c_154 => ?_)
              · skip
                have tc_154 := ti_le c_154
                refine lv_aload_n G0.1 G0.2.1 dX7_changeHuts_117 rfl (lv_at hl 6 rfl) ?_
                refine lv_aload_n G0.1 G0.2.1 dX7_changeHuts_118 rfl (lv_at hl 5 rfl) ?_
                obtain ⟨v_155, v_156, hr_158, b_157⟩ := wg_7 hWF Th
                have bv_155 := wf_free v_155
                refine py_get (C := RX7) (T := TX7) (N := 5) (k := 2) (v := .ref (G.2 h 2)) G0 hw in_X7_changeHuts_X7 rfl hr_158 (by decide) (by decide +kernel) rfl dX7_changeHuts_119 ?_
                refine lv_iload_n G0.1 G0.2.1 dX7_changeHuts_122 rfl (lv_at hl 4 rfl) ?_
                refine lv_iconst (v := 1) G0.1 G0.2.1 dX7_changeHuts_123 (by decide) ?_
                refine lv_isub G0.1 G0.2.1 dX7_changeHuts_124 ?_
                refine lv_topi (fun x_159 ex_159 => ?_)
                first | have tx_159 := ti_sub ex_159 (by omega) (by omega) | skip
                obtain ⟨g_160, ha_161, hi_162⟩ := wf_arr (n := 10) (lo := 0) (hi := 9) hWF t_5 (by decide) (fun _ => rfl)
                have rg_163 : vp_in x_159 10 := ti_in (by omega) (by omega)
                refine py_iald G0 hw ha_161 rg_163 dX7_changeHuts_125 ?_
                refine lv_topi (fun x_164 ex_164 => ?_)
                have bx_164 := ti_at hi_162 rg_163 ex_164
                have qx_164 := ari_ld ha_161 ex_164
                refine lv_iload G0.1 G0.2.1 dX7_changeHuts_126 (lv_at hl 2 rfl) ?_
                refine lv_iload G0.1 G0.2.1 dX7_changeHuts_128 (lv_at hl 1 rfl) ?_
                obtain ⟨r_165, y_166, v_167, hr_170, ty_168, b_169⟩ := wg_2 hWF To
                have tq_171 := fo_eq hr_170
                have tq_172 := fv_now hRP hKP (by decide) hWF To
                refine py_callv hw (va_runV (As := [.int x_164, .int x_146, .int x_151]) (rest := []) G0 (c_X2_move l E G L_j64 f_j64 H_j64.size o x_164 x_146 x_151 hG hWF To ⟨by omega, by omega⟩ ⟨by omega, by omega⟩) (cwV 3 G0.2.2.2.2 g_X7_changeHuts_X2_move_139 rfl rfl rfl (by decide +kernel) ⟨(Nat.le_of_ble_eq_true rfl), (Nat.le_of_ble_eq_true rfl)⟩) (py_preV hw (C := RX2) (T := TX2) (N := 12) rfl hr_170) rfl rfl hl.1 rfl (lv_room (Nat.le_of_ble_eq_true rfl)) dX7_changeHuts_130 ⟨(Nat.le_of_ble_eq_true rfl), (Nat.le_of_ble_eq_true rfl)⟩) (fun L_173 f_174 H_175 locs hp_176 hw => ?_)
                obtain ⟨en_178, hWF, hq_179, kp_180⟩ := hp_176
                have hRP := hRP.trans hq_179
                have hKP := hKP.trans kp_180 (by decide) (by decide)
                have hr_158 := kp_at kp_180 hWF Th (by decide) (by decide) (by decide) hr_158
                have hr_170 := kp_at kp_180 hWF To (by decide) (by decide) (by decide) hr_170
                have tq_181 := fo_eq hr_170
                have tq_182 := fv_now hRP hKP (by decide) hWF To
                have ha_161 := kp_at kp_180 hWF t_5 (by decide) (by decide) (by decide) ha_161
                have hRG := hRG.mv en_178 (kp_f kp_180 t_5 (by decide) (by decide) (fun _ => by decide)) (by omega)
                have hDV := hDV.mv en_178 (by omega) (by omega)
                refine lv_iload_n G0.1 G0.2.1 dX7_changeHuts_133 rfl (lv_at hl 4 rfl) ?_
                exact py_iret G0 hr rfl hlk hw ⟨hDV, hWF, hRP, hKP⟩ dX7_changeHuts_134
              · skip
                have tc_154 := ti_nle c_154
                refine lv_aload_n G0.1 G0.2.1 dX7_changeHuts_72 rfl (lv_at hl 6 rfl) ?_
                refine lv_aload_n G0.1 G0.2.1 dX7_changeHuts_73 rfl (lv_at hl 5 rfl) ?_
                obtain ⟨v_183, v_184, hr_186, b_185⟩ := wg_7 hWF Th
                have bv_183 := wf_free v_183
                refine py_get (C := RX7) (T := TX7) (N := 5) (k := 2) (v := .ref (G.2 h 2)) G0 hw in_X7_changeHuts_X7 rfl hr_186 (by decide) (by decide +kernel) rfl dX7_changeHuts_74 ?_
                refine lv_iload G0.1 G0.2.1 dX7_changeHuts_77 (lv_at hl 0 rfl) ?_
                obtain ⟨g_187, ha_188, hi_189⟩ := wf_arr (n := 10) (lo := 0) (hi := 9) hWF t_5 (by decide) (fun _ => rfl)
                have rg_190 : vp_in v_152 10 := ti_in (by omega) (by omega)
                refine py_iald G0 hw ha_188 rg_190 dX7_changeHuts_79 ?_
                refine lv_topi (fun x_191 ex_191 => ?_)
                have bx_191 := ti_at hi_189 rg_190 ex_191
                have qx_191 := ari_ld ha_188 ex_191
                refine lv_aload_n G0.1 G0.2.1 dX7_changeHuts_80 rfl (lv_at hl 6 rfl) ?_
                obtain ⟨r_192, y_193, v_194, hr_197, ty_195, b_196⟩ := wg_2 hWF To
                have tq_198 := fo_eq hr_197
                have tq_199 := fv_now hRP hKP (by decide) hWF To
                refine py_get (C := RX2) (T := TX2) (N := 12) (k := 1) (v := .ref (G.2 o 1)) G0 hw in_X7_changeHuts_X2 rfl hr_197 (by decide) (by decide +kernel) rfl dX7_changeHuts_81 ?_
                refine lv_aload_n G0.1 G0.2.1 dX7_changeHuts_84 rfl (lv_at hl 5 rfl) ?_
                refine py_get (C := RX7) (T := TX7) (N := 5) (k := 2) (v := .ref (G.2 h 2)) G0 hw in_X7_changeHuts_X7 rfl hr_186 (by decide) (by decide +kernel) rfl dX7_changeHuts_85 ?_
                refine lv_iload G0.1 G0.2.1 dX7_changeHuts_88 (lv_at hl 0 rfl) ?_
                refine lv_iconst (v := 1) G0.1 G0.2.1 dX7_changeHuts_90 (by decide) ?_
                refine lv_iadd G0.1 G0.2.1 dX7_changeHuts_91 ?_
                refine lv_topi (fun x_200 ex_200 => ?_)
                first | have tx_200 := ti_add ex_200 (by omega) (by omega) | skip
                have rg_201 : vp_in x_200 10 := ti_in (by omega) (by omega)
                refine py_iald G0 hw ha_188 rg_201 dX7_changeHuts_92 ?_
                refine lv_topi (fun x_202 ex_202 => ?_)
                have bx_202 := ti_at hi_189 rg_201 ex_202
                have qx_202 := ari_ld ha_188 ex_202
                have hrg := hRG x_200 (by omega) (by omega) x_202 (by omega)
                obtain ⟨g_203, ha_204, hi_205⟩ := wf_arr (n := 10) (lo := (-1)) (hi := 7) hWF t_19 (by omega) (wf_own1 E G _ o)
                have rg_206 : vp_in x_202 10 := ti_in (by omega) (by omega)
                refine py_iald G0 hw ha_204 rg_206 dX7_changeHuts_93 ?_
                refine lv_topi (fun x_207 ex_207 => ?_)
                have bx_207 := ti_at hi_205 rg_206 ex_207
                have qx_207 := ari_ld ha_204 ex_207
                refine lv_aload_n G0.1 G0.2.1 dX7_changeHuts_94 rfl (lv_at hl 6 rfl) ?_
                refine py_get (C := RX2) (T := TX2) (N := 12) (k := 2) (v := .ref (G.2 o 2)) G0 hw in_X7_changeHuts_X2 rfl hr_197 (by decide) (by decide +kernel) rfl dX7_changeHuts_95 ?_
                refine lv_aload_n G0.1 G0.2.1 dX7_changeHuts_98 rfl (lv_at hl 5 rfl) ?_
                refine py_get (C := RX7) (T := TX7) (N := 5) (k := 2) (v := .ref (G.2 h 2)) G0 hw in_X7_changeHuts_X7 rfl hr_186 (by decide) (by decide +kernel) rfl dX7_changeHuts_99 ?_
                refine lv_iload G0.1 G0.2.1 dX7_changeHuts_102 (lv_at hl 0 rfl) ?_
                refine lv_iconst (v := 1) G0.1 G0.2.1 dX7_changeHuts_104 (by decide) ?_
                refine lv_iadd G0.1 G0.2.1 dX7_changeHuts_105 ?_
                refine lv_topi (fun x_208 ex_208 => ?_)
                first | have tx_208 := ti_add ex_208 (by omega) (by omega) | skip
                have rg_209 : vp_in x_208 10 := ti_in (by omega) (by omega)
                refine py_iald G0 hw ha_188 rg_209 dX7_changeHuts_106 ?_
                refine lv_topi (fun x_210 ex_210 => ?_)
                have bx_210 := ti_at hi_189 rg_209 ex_210
                have qx_210 := ari_ld ha_188 ex_210
                obtain ⟨g_211, ha_212, hi_213⟩ := wf_arr (n := 10) (lo := (-2147483648)) (hi := 2147483647) hWF t_20 (by decide) (fun _ => rfl)
                have rg_214 : vp_in x_210 10 := ti_in (by omega) (by omega)
                refine py_iald G0 hw ha_212 rg_214 dX7_changeHuts_107 ?_
                refine lv_topi (fun x_215 ex_215 => ?_)
                have bx_215 := wf_free x_215
                have qx_215 := ari_ld ha_212 ex_215
                refine py_callv hw (va_runV (As := [.int x_191, .int x_207, .int x_215]) (rest := []) G0 (c_X2_move l E G L_j64 f_j64 H_j64.size o x_191 x_207 x_215 hG hWF To ⟨by omega, by omega⟩ ⟨by omega, by omega⟩) (cwV 3 G0.2.2.2.2 g_X7_changeHuts_X2_move_139 rfl rfl rfl (by decide +kernel) ⟨(Nat.le_of_ble_eq_true rfl), (Nat.le_of_ble_eq_true rfl)⟩) (py_preV hw (C := RX2) (T := TX2) (N := 12) rfl hr_197) rfl rfl hl.1 rfl (lv_room (Nat.le_of_ble_eq_true rfl)) dX7_changeHuts_108 ⟨(Nat.le_of_ble_eq_true rfl), (Nat.le_of_ble_eq_true rfl)⟩) (fun L_216 f_217 H_218 locs hp_219 hw => ?_)
                obtain ⟨en_221, hWF, hq_222, kp_223⟩ := hp_219
                have hRP := hRP.trans hq_222
                have hKP := hKP.trans kp_223 (by decide) (by decide)
                have hr_186 := kp_at kp_223 hWF Th (by decide) (by decide) (by decide) hr_186
                have hr_197 := kp_at kp_223 hWF To (by decide) (by decide) (by decide) hr_197
                have tq_224 := fo_eq hr_197
                have tq_225 := fv_now hRP hKP (by decide) hWF To
                have ha_188 := kp_at kp_223 hWF t_5 (by decide) (by decide) (by decide) ha_188
                have hRG := hRG.mv en_221 (kp_f kp_223 t_5 (by decide) (by decide) (fun _ => by decide)) (by omega)
                have hDV := hDV.mv en_221 (by omega) (by omega)
                obtain ⟨x_226, ex_226⟩ : ∃ y : Int32, y = v_152 + 1 := ⟨_, rfl⟩
                first | have tx_226 := ti_add ex_226 (by omega) (by omega) | skip
                refine lv_iinc (v := x_226) (lv' := [(7, .int x_226), (6, .int x_151), (5, .int x_146), (4, .int r_36), (3, .int x_31), (0, .ref h), (1, .ref o), (2, .int a)]) G0.1 G0.2.1 dX7_changeHuts_111 hl (k := 0) rfl (show _ + (1 : Int32) = _ from ex_226.symm) (by decide) rfl (fun ls hl => ?_)
                refine lv_goto (tgt := 64) G0.1 G0.2.1 dX7_changeHuts_114 (by decide) ?_
                exact ih_64 ((2147483647 - x_226.toInt).toNat) (by omega) x_226 L_216 f_217 _ _ ls rfl ⟨by omega, by omega⟩ hWF hRP hKP hDV (hRG.cast (by omega)) hw (lv_sub hl [0, 1, 2, 3, 4, 5, 6, 7] rfl)
          exact lo_64 _ 0 L_j5 f_14 _ _ ls rfl ⟨by omega, by omega⟩ hWF hRP hKP hDV (hRG.cast (by omega)) hw (lv_sub hl [0, 1, 2, 3, 4, 5, 6, 7] rfl)
        · skip
          have tc_133 := ti_ne c_133
          refine lv_iload G0.1 G0.2.1 dX7_changeHuts_39 (lv_at hl 0 rfl) ?_
          refine lv_iconst (v := (-1)) G0.1 G0.2.1 dX7_changeHuts_41 (by decide) ?_
          refine lv_icmp_ne (tgt := 5) G0.1 G0.2.1 dX7_changeHuts_42 (by decide) (fun c_227 => ?_) (fun c_227 => ?_)
          · skip
            have tc_227 := ti_ne c_227
            exact ih_5 ((10 - x_31.toInt).toNat) (by omega) r_36 x_31 L_j5 f_14 _ _ ls rfl ⟨by omega, by omega⟩ ⟨by omega, by omega⟩ hWF hRP hKP hDV (hRG.cast (by omega)) (by first | omega | (intros; omega)) (by first | omega | (intros; omega)) hw (lv_sub hl [0, 1, 2, 3, 4] rfl)
          · skip
            have tc_227 := ti_eq c_227
            refine lv_aload_n G0.1 G0.2.1 dX7_changeHuts_45 rfl (lv_at hl 3 rfl) ?_
            obtain ⟨r_228, y_229, v_230, hr_233, ty_231, b_232⟩ := wg_2 hWF To
            have tq_234 := fo_eq hr_233
            have tq_235 := fv_now hRP hKP (by decide) hWF To
            refine py_get (C := RX2) (T := TX2) (N := 12) (k := 1) (v := .ref (G.2 o 1)) G0 hw in_X7_changeHuts_X2 rfl hr_233 (by decide) (by decide +kernel) rfl dX7_changeHuts_46 ?_
            refine lv_iload_n G0.1 G0.2.1 dX7_changeHuts_49 rfl (lv_at hl 4 rfl) ?_
            have hdf := hDV a (by omega) (by omega)
            obtain ⟨g_236, ha_237, hi_238⟩ := wf_arr (n := 10) (lo := (-1)) (hi := 7) hWF t_19 (by omega) (wf_own1 E G _ o)
            have rg_239 : vp_in a 10 := ti_in (by omega) (by omega)
            refine py_iald G0 hw ha_237 rg_239 dX7_changeHuts_50 ?_
            refine lv_topi (fun x_240 ex_240 => ?_)
            have bx_240 := ti_at hi_238 rg_239 ex_240
            have qx_240 := ari_ld ha_237 ex_240
            refine lv_istore (lv' := [(5, .int x_240), (4, .int r_36), (3, .int x_31), (0, .ref h), (1, .ref o), (2, .int a)]) G0.1 G0.2.1 dX7_changeHuts_51 hl (by decide) rfl (fun ls hl => ?_)
            refine lv_aload_n G0.1 G0.2.1 dX7_changeHuts_53 rfl (lv_at hl 4 rfl) ?_
            refine py_get (C := RX2) (T := TX2) (N := 12) (k := 2) (v := .ref (G.2 o 2)) G0 hw in_X7_changeHuts_X2 rfl hr_233 (by decide) (by decide +kernel) rfl dX7_changeHuts_54 ?_
            refine lv_iload_n G0.1 G0.2.1 dX7_changeHuts_57 rfl (lv_at hl 5 rfl) ?_
            obtain ⟨g_241, ha_242, hi_243⟩ := wf_arr (n := 10) (lo := (-2147483648)) (hi := 2147483647) hWF t_20 (by decide) (fun _ => rfl)
            have rg_244 : vp_in a 10 := ti_in (by omega) (by omega)
            refine py_iald G0 hw ha_242 rg_244 dX7_changeHuts_58 ?_
            refine lv_topi (fun x_245 ex_245 => ?_)
            have bx_245 := wf_free x_245
            have qx_245 := ari_ld ha_242 ex_245
            refine lv_istore (lv' := [(6, .int x_245), (5, .int x_240), (4, .int r_36), (3, .int x_31), (0, .ref h), (1, .ref o), (2, .int a)]) G0.1 G0.2.1 dX7_changeHuts_59 hl (by decide) rfl (fun ls hl => ?_)
            refine lv_iconst (v := 0) G0.1 G0.2.1 dX7_changeHuts_61 (by decide) ?_
            refine lv_istore (lv' := [(7, .int 0), (6, .int x_245), (5, .int x_240), (4, .int r_36), (3, .int x_31), (0, .ref h), (1, .ref o), (2, .int a)]) G0.1 G0.2.1 dX7_changeHuts_62 hl (by decide) rfl (fun ls hl => ?_)
            have lo_64 : ∀ n_64 : Nat, ∀ (v_246 : Int32) (L_j64 : List Nat) (f_j64 : py_F) (H_j64 : Heap) (locs : List Loc) (ls : Array Slot), (2147483647 - v_246.toInt).toNat = n_64 → (0 ≤ v_246.toInt ∧ v_246.toInt ≤ 9) → WF E G L_j64 f_j64 → RP E G f f_j64 → KP G [33, 26, 37] true f f_j64 → DV G f_j64 o (fv_f f o) → (RG G f_j64 h o x_31.toInt) → py_W E (va_A (va_pl L f) s.heap.size) s L_j64 f_j64 H_j64 locs → lv_has ls 8 [(7, .int v_246), (6, .int x_245), (5, .int x_240), (4, .int r_36), (3, .int x_31), (0, .ref h), (1, .ref o), (2, .int a)] → W p l e (headSpec w_X7_changeHuts ({ frames := 1, cells := 0, slots := 0, locals := 23 })).room s m ([.ref h, .ref o, .int a] : List Value).toArray below meth c H_j64 locs 0 0 (MQ below (py_Qi E L f s.heap.size (fun _ L1 f1 => (DV G f1 o (fv_f f o)) ∧ WF E G L1 f1 ∧ RP E G f f1 ∧ KP G [33, 26, 37] true f f1)) ([.ref h, .ref o, .int a] : List Value).toArray s 0 0 (va_A (va_pl L f) s.heap.size)) (F0 m 64 ls []) := by
              intro n_64
              induction n_64 using Nat.strongRecOn with
              | _ n_64 ih_64 =>
                intro v_246 L_j64 f_j64 H_j64 locs ls hn_64 bv_246 hWF hRP hKP hDV iv0 hw hl
                have hRG := iv0
                refine lv_iload G0.1 G0.2.1 dX7_changeHuts_64 (lv_at hl 0 rfl) ?_
                refine lv_iconst (v := 1) G0.1 G0.2.1 dX7_changeHuts_66 (by decide) ?_
                refine lv_iadd G0.1 G0.2.1 dX7_changeHuts_67 ?_
                refine lv_topi (fun x_247 ex_247 => ?_)
                first | have tx_247 := ti_add ex_247 (by omega) (by omega) | skip
                refine lv_iload_n G0.1 G0.2.1 dX7_changeHuts_68 rfl (lv_at hl 4 rfl) ?_
                refine lv_icmp_ge (tgt := 117) G0.1 G0.2.1 dX7_changeHuts_69 (by decide) (fun c_248 => ?_) (fun c_248 => ?_)
                · skip
                  have tc_248 := ti_le c_248
                  refine lv_aload_n G0.1 G0.2.1 dX7_changeHuts_117 rfl (lv_at hl 6 rfl) ?_
                  refine lv_aload_n G0.1 G0.2.1 dX7_changeHuts_118 rfl (lv_at hl 5 rfl) ?_
                  obtain ⟨v_249, v_250, hr_252, b_251⟩ := wg_7 hWF Th
                  have bv_249 := wf_free v_249
                  refine py_get (C := RX7) (T := TX7) (N := 5) (k := 2) (v := .ref (G.2 h 2)) G0 hw in_X7_changeHuts_X7 rfl hr_252 (by decide) (by decide +kernel) rfl dX7_changeHuts_119 ?_
                  refine lv_iload_n G0.1 G0.2.1 dX7_changeHuts_122 rfl (lv_at hl 4 rfl) ?_
                  refine lv_iconst (v := 1) G0.1 G0.2.1 dX7_changeHuts_123 (by decide) ?_
                  refine lv_isub G0.1 G0.2.1 dX7_changeHuts_124 ?_
                  refine lv_topi (fun x_253 ex_253 => ?_)
                  first | have tx_253 := ti_sub ex_253 (by omega) (by omega) | skip
                  obtain ⟨g_254, ha_255, hi_256⟩ := wf_arr (n := 10) (lo := 0) (hi := 9) hWF t_5 (by decide) (fun _ => rfl)
                  have rg_257 : vp_in x_253 10 := ti_in (by omega) (by omega)
                  refine py_iald G0 hw ha_255 rg_257 dX7_changeHuts_125 ?_
                  refine lv_topi (fun x_258 ex_258 => ?_)
                  have bx_258 := ti_at hi_256 rg_257 ex_258
                  have qx_258 := ari_ld ha_255 ex_258
                  refine lv_iload G0.1 G0.2.1 dX7_changeHuts_126 (lv_at hl 2 rfl) ?_
                  refine lv_iload G0.1 G0.2.1 dX7_changeHuts_128 (lv_at hl 1 rfl) ?_
                  obtain ⟨r_259, y_260, v_261, hr_264, ty_262, b_263⟩ := wg_2 hWF To
                  have tq_265 := fo_eq hr_264
                  have tq_266 := fv_now hRP hKP (by decide) hWF To
                  refine py_callv hw (va_runV (As := [.int x_258, .int x_240, .int x_245]) (rest := []) G0 (c_X2_move l E G L_j64 f_j64 H_j64.size o x_258 x_240 x_245 hG hWF To ⟨by omega, by omega⟩ ⟨by omega, by omega⟩) (cwV 3 G0.2.2.2.2 g_X7_changeHuts_X2_move_139 rfl rfl rfl (by decide +kernel) ⟨(Nat.le_of_ble_eq_true rfl), (Nat.le_of_ble_eq_true rfl)⟩) (py_preV hw (C := RX2) (T := TX2) (N := 12) rfl hr_264) rfl rfl hl.1 rfl (lv_room (Nat.le_of_ble_eq_true rfl)) dX7_changeHuts_130 ⟨(Nat.le_of_ble_eq_true rfl), (Nat.le_of_ble_eq_true rfl)⟩) (fun L_267 f_268 H_269 locs hp_270 hw => ?_)
                  obtain ⟨en_272, hWF, hq_273, kp_274⟩ := hp_270
                  have hRP := hRP.trans hq_273
                  have hKP := hKP.trans kp_274 (by decide) (by decide)
                  have hr_252 := kp_at kp_274 hWF Th (by decide) (by decide) (by decide) hr_252
                  have hr_264 := kp_at kp_274 hWF To (by decide) (by decide) (by decide) hr_264
                  have tq_275 := fo_eq hr_264
                  have tq_276 := fv_now hRP hKP (by decide) hWF To
                  have ha_255 := kp_at kp_274 hWF t_5 (by decide) (by decide) (by decide) ha_255
                  have hRG := hRG.mv en_272 (kp_f kp_274 t_5 (by decide) (by decide) (fun _ => by decide)) (by omega)
                  have hDV := hDV.mv en_272 (by omega) (by omega)
                  refine lv_iload_n G0.1 G0.2.1 dX7_changeHuts_133 rfl (lv_at hl 4 rfl) ?_
                  exact py_iret G0 hr rfl hlk hw ⟨hDV, hWF, hRP, hKP⟩ dX7_changeHuts_134
                · skip
                  have tc_248 := ti_nle c_248
                  refine lv_aload_n G0.1 G0.2.1 dX7_changeHuts_72 rfl (lv_at hl 6 rfl) ?_
                  refine lv_aload_n G0.1 G0.2.1 dX7_changeHuts_73 rfl (lv_at hl 5 rfl) ?_
                  obtain ⟨v_277, v_278, hr_280, b_279⟩ := wg_7 hWF Th
                  have bv_277 := wf_free v_277
                  refine py_get (C := RX7) (T := TX7) (N := 5) (k := 2) (v := .ref (G.2 h 2)) G0 hw in_X7_changeHuts_X7 rfl hr_280 (by decide) (by decide +kernel) rfl dX7_changeHuts_74 ?_
                  refine lv_iload G0.1 G0.2.1 dX7_changeHuts_77 (lv_at hl 0 rfl) ?_
                  obtain ⟨g_281, ha_282, hi_283⟩ := wf_arr (n := 10) (lo := 0) (hi := 9) hWF t_5 (by decide) (fun _ => rfl)
                  have rg_284 : vp_in v_246 10 := ti_in (by omega) (by omega)
                  refine py_iald G0 hw ha_282 rg_284 dX7_changeHuts_79 ?_
                  refine lv_topi (fun x_285 ex_285 => ?_)
                  have bx_285 := ti_at hi_283 rg_284 ex_285
                  have qx_285 := ari_ld ha_282 ex_285
                  refine lv_aload_n G0.1 G0.2.1 dX7_changeHuts_80 rfl (lv_at hl 6 rfl) ?_
                  obtain ⟨r_286, y_287, v_288, hr_291, ty_289, b_290⟩ := wg_2 hWF To
                  have tq_292 := fo_eq hr_291
                  have tq_293 := fv_now hRP hKP (by decide) hWF To
                  refine py_get (C := RX2) (T := TX2) (N := 12) (k := 1) (v := .ref (G.2 o 1)) G0 hw in_X7_changeHuts_X2 rfl hr_291 (by decide) (by decide +kernel) rfl dX7_changeHuts_81 ?_
                  refine lv_aload_n G0.1 G0.2.1 dX7_changeHuts_84 rfl (lv_at hl 5 rfl) ?_
                  refine py_get (C := RX7) (T := TX7) (N := 5) (k := 2) (v := .ref (G.2 h 2)) G0 hw in_X7_changeHuts_X7 rfl hr_280 (by decide) (by decide +kernel) rfl dX7_changeHuts_85 ?_
                  refine lv_iload G0.1 G0.2.1 dX7_changeHuts_88 (lv_at hl 0 rfl) ?_
                  refine lv_iconst (v := 1) G0.1 G0.2.1 dX7_changeHuts_90 (by decide) ?_
                  refine lv_iadd G0.1 G0.2.1 dX7_changeHuts_91 ?_
                  refine lv_topi (fun x_294 ex_294 => ?_)
                  first | have tx_294 := ti_add ex_294 (by omega) (by omega) | skip
                  have rg_295 : vp_in x_294 10 := ti_in (by omega) (by omega)
                  refine py_iald G0 hw ha_282 rg_295 dX7_changeHuts_92 ?_
                  refine lv_topi (fun x_296 ex_296 => ?_)
                  have bx_296 := ti_at hi_283 rg_295 ex_296
                  have qx_296 := ari_ld ha_282 ex_296
                  have hrg := hRG x_294 (by omega) (by omega) x_296 (by omega)
                  obtain ⟨g_297, ha_298, hi_299⟩ := wf_arr (n := 10) (lo := (-1)) (hi := 7) hWF t_19 (by omega) (wf_own1 E G _ o)
                  have rg_300 : vp_in x_296 10 := ti_in (by omega) (by omega)
                  refine py_iald G0 hw ha_298 rg_300 dX7_changeHuts_93 ?_
                  refine lv_topi (fun x_301 ex_301 => ?_)
                  have bx_301 := ti_at hi_299 rg_300 ex_301
                  have qx_301 := ari_ld ha_298 ex_301
                  refine lv_aload_n G0.1 G0.2.1 dX7_changeHuts_94 rfl (lv_at hl 6 rfl) ?_
                  refine py_get (C := RX2) (T := TX2) (N := 12) (k := 2) (v := .ref (G.2 o 2)) G0 hw in_X7_changeHuts_X2 rfl hr_291 (by decide) (by decide +kernel) rfl dX7_changeHuts_95 ?_
                  refine lv_aload_n G0.1 G0.2.1 dX7_changeHuts_98 rfl (lv_at hl 5 rfl) ?_
                  refine py_get (C := RX7) (T := TX7) (N := 5) (k := 2) (v := .ref (G.2 h 2)) G0 hw in_X7_changeHuts_X7 rfl hr_280 (by decide) (by decide +kernel) rfl dX7_changeHuts_99 ?_
                  refine lv_iload G0.1 G0.2.1 dX7_changeHuts_102 (lv_at hl 0 rfl) ?_
                  refine lv_iconst (v := 1) G0.1 G0.2.1 dX7_changeHuts_104 (by decide) ?_
                  refine lv_iadd G0.1 G0.2.1 dX7_changeHuts_105 ?_
                  refine lv_topi (fun x_302 ex_302 => ?_)
                  first | have tx_302 := ti_add ex_302 (by omega) (by omega) | skip
                  have rg_303 : vp_in x_302 10 := ti_in (by omega) (by omega)
                  refine py_iald G0 hw ha_282 rg_303 dX7_changeHuts_106 ?_
                  refine lv_topi (fun x_304 ex_304 => ?_)
                  have bx_304 := ti_at hi_283 rg_303 ex_304
                  have qx_304 := ari_ld ha_282 ex_304
                  obtain ⟨g_305, ha_306, hi_307⟩ := wf_arr (n := 10) (lo := (-2147483648)) (hi := 2147483647) hWF t_20 (by decide) (fun _ => rfl)
                  have rg_308 : vp_in x_304 10 := ti_in (by omega) (by omega)
                  refine py_iald G0 hw ha_306 rg_308 dX7_changeHuts_107 ?_
                  refine lv_topi (fun x_309 ex_309 => ?_)
                  have bx_309 := wf_free x_309
                  have qx_309 := ari_ld ha_306 ex_309
                  refine py_callv hw (va_runV (As := [.int x_285, .int x_301, .int x_309]) (rest := []) G0 (c_X2_move l E G L_j64 f_j64 H_j64.size o x_285 x_301 x_309 hG hWF To ⟨by omega, by omega⟩ ⟨by omega, by omega⟩) (cwV 3 G0.2.2.2.2 g_X7_changeHuts_X2_move_139 rfl rfl rfl (by decide +kernel) ⟨(Nat.le_of_ble_eq_true rfl), (Nat.le_of_ble_eq_true rfl)⟩) (py_preV hw (C := RX2) (T := TX2) (N := 12) rfl hr_291) rfl rfl hl.1 rfl (lv_room (Nat.le_of_ble_eq_true rfl)) dX7_changeHuts_108 ⟨(Nat.le_of_ble_eq_true rfl), (Nat.le_of_ble_eq_true rfl)⟩) (fun L_310 f_311 H_312 locs hp_313 hw => ?_)
                  obtain ⟨en_315, hWF, hq_316, kp_317⟩ := hp_313
                  have hRP := hRP.trans hq_316
                  have hKP := hKP.trans kp_317 (by decide) (by decide)
                  have hr_280 := kp_at kp_317 hWF Th (by decide) (by decide) (by decide) hr_280
                  have hr_291 := kp_at kp_317 hWF To (by decide) (by decide) (by decide) hr_291
                  have tq_318 := fo_eq hr_291
                  have tq_319 := fv_now hRP hKP (by decide) hWF To
                  have ha_282 := kp_at kp_317 hWF t_5 (by decide) (by decide) (by decide) ha_282
                  have hRG := hRG.mv en_315 (kp_f kp_317 t_5 (by decide) (by decide) (fun _ => by decide)) (by omega)
                  have hDV := hDV.mv en_315 (by omega) (by omega)
                  obtain ⟨x_320, ex_320⟩ : ∃ y : Int32, y = v_246 + 1 := ⟨_, rfl⟩
                  first | have tx_320 := ti_add ex_320 (by omega) (by omega) | skip
                  refine lv_iinc (v := x_320) (lv' := [(7, .int x_320), (6, .int x_245), (5, .int x_240), (4, .int r_36), (3, .int x_31), (0, .ref h), (1, .ref o), (2, .int a)]) G0.1 G0.2.1 dX7_changeHuts_111 hl (k := 0) rfl (show _ + (1 : Int32) = _ from ex_320.symm) (by decide) rfl (fun ls hl => ?_)
                  refine lv_goto (tgt := 64) G0.1 G0.2.1 dX7_changeHuts_114 (by decide) ?_
                  exact ih_64 ((2147483647 - x_320.toInt).toNat) (by omega) x_320 L_310 f_311 _ _ ls rfl ⟨by omega, by omega⟩ hWF hRP hKP hDV (hRG.cast (by omega)) hw (lv_sub hl [0, 1, 2, 3, 4, 5, 6, 7] rfl)
            exact lo_64 _ 0 L_j5 f_14 _ _ ls rfl ⟨by omega, by omega⟩ hWF hRP hKP hDV (hRG.cast (by omega)) hw (lv_sub hl [0, 1, 2, 3, 4, 5, 6, 7] rfl)
  exact lo_5 _ a 0 L f _ _ ls rfl ⟨by omega, by omega⟩ ⟨by omega, by omega⟩ hWF hRP hKP hDV (RG.zero (by omega)) (by first | omega | (intros; omega)) (by first | omega | (intros; omega)) hw (lv_sub hl [0, 1, 2, 3, 4] rfl)

def w_X7_changeRing : List Cond := .code yX7_changeRing cX7_changeRing 4 (some .int) :: ([Cond.fieldLink RX7 33 "HeadYear$Folk" "valley" "LHeadYear$Valley;", Cond.fieldLink RX7 46 "HeadYear$Valley" "families" "I", Cond.fieldLink RX7 89 "HeadYear$Folk" "debt" "[I", Cond.methodLink RX7 143 yX7_metTwice, Cond.static yX7_metTwice, Cond.initialized RX7, Cond.methodLink RX7 146 yX7_changeHuts, Cond.instanceMethod yX7_changeHuts, Cond.selects RX7 yX7_changeHuts yX7_changeHuts] ++ (u_ws RX2 TX2 12 ++ (u_ws RX9 TX9 10 ++ (w_X7_metTwice ++ (w_X7_changeHuts ++ ([]))))))
theorem in_X7_changeRing_X2 : ∀ w ∈ u_ws RX2 TX2 12, w ∈ w_X7_changeRing := fun _ h => List.mem_cons_of_mem _ (List.mem_append_right _ (List.mem_append_left _ h))
theorem in_X7_changeRing_X9 : ∀ w ∈ u_ws RX9 TX9 10, w ∈ w_X7_changeRing := fun _ h => List.mem_cons_of_mem _ (List.mem_append_right _ (List.mem_append_right _ (List.mem_append_left _ h)))
theorem gg_X7_changeRing_X7_metTwice : GoodIn w_X7_changeRing w_X7_metTwice := goodIn_sub (fun _ h => List.mem_cons_of_mem _ (List.mem_append_right _ (List.mem_append_right _ (List.mem_append_right _ (List.mem_append_left _ h))))) (by decide +kernel)
theorem gg_X7_changeRing_X7_changeHuts : GoodIn w_X7_changeRing w_X7_changeHuts := goodIn_sub (fun _ h => List.mem_cons_of_mem _ (List.mem_append_right _ (List.mem_append_right _ (List.mem_append_right _ (List.mem_append_right _ (List.mem_append_left _ h)))))) (by decide +kernel)
theorem g_X7_changeRing_X7_changeHuts_146 : GoodIn w_X7_changeRing (wsV RX7 146 RX7 yX7_changeHuts w_X7_changeHuts) := goodIn_app (goodIn_of _ (by decide +kernel)) gg_X7_changeRing_X7_changeHuts
theorem g_X7_changeRing_X7_metTwice_143 : GoodIn w_X7_changeRing (va_wsS RX7 143 yX7_metTwice w_X7_metTwice) := goodIn_app (goodIn_of _ (by decide +kernel)) gg_X7_changeRing_X7_metTwice
set_option maxHeartbeats 4000000 in
set_option maxRecDepth 100000 in
theorem c_X7_changeRing (l : Launch) (E : py_E) (G : wf_G) (L : List Nat) (f : py_F) (sz : Nat) (h : Nat) (o : Nat) (hG : GT G) (hWF : WF E G L f) (Th : G.1 h = 8) (To : G.1 o = 3) (hq0 : DV G f o (fv_f f o)) : Met l yX7_changeRing w_X7_changeRing ({ frames := 2, cells := 0, slots := 0, locals := 50 }) (py_Pc E [.ref h, .ref o] L f sz) (py_Qi E L f sz (fun _ L1 f1 => (DV G f1 o (fv_f f o)) ∧ WF E G L1 f1 ∧ RP E G f f1 ∧ KP G [33, 26, 37] true f f1)) 0 0 (va_A (va_pl L f) sz) := by
  refine Met.ofW (cc := cX7_changeRing) (maxL := 4) (ret := (some .int)) (by decide) rfl ?_
  intro p e s m args below meth c s₁ B hml hv
  obtain ⟨rfl, rfl, hw⟩ := py_start hv
  have G0 : CallFix p m c cX7_changeRing 4 s _ w_X7_changeRing RX7 := ⟨B.exec, B.bytes, hml, findClass_of_methodNamed B.named, atoms_spec (ws := w_X7_changeRing) B.pre⟩
  have hr := B.returns
  have hlk := B.notSynchronized
  have kcm1 : (-1 : Int32).toInt = -1 := rfl
  have kc0 : (0 : Int32).toInt = 0 := rfl
  have kc1 : (1 : Int32).toInt = 1 := rfl
  have hl := lv_entry ([.ref h, .ref o]) (n := 4) (Nat.le_of_ble_eq_true rfl)
  rw [lg_entry_eq]
  generalize (lg_sl ([.ref h, .ref o]) ++ List.replicate (4 - (lg_sl ([.ref h, .ref o])).length) Slot.unset).toArray = ls at hl ⊢
  have hl : lv_has ls 4 [(0, .ref h), (1, .ref o)] := hl
  have hRP : RP E G f f := RP.refl
  have hKP : KP G [33, 26, 37] true f f := KP.refl
  have hDV := hq0
  refine lv_iconst (v := 0) G0.1 G0.2.1 dX7_changeRing_0 (by decide) ?_
  refine lv_istore_n (lv' := [(2, .int 0), (0, .ref h), (1, .ref o)]) G0.1 G0.2.1 dX7_changeRing_1 rfl hl (by decide) rfl (fun ls hl => ?_)
  have lo_2 : ∀ n_2 : Nat, ∀ (v_1 : Int32) (H_j2 : Heap) (locs : List Loc) (ls : Array Slot), (2147483647 - v_1.toInt).toNat = n_2 → (0 ≤ v_1.toInt ∧ v_1.toInt ≤ 2147483647) → py_W E (va_A (va_pl L f) s.heap.size) s L f H_j2 locs → lv_has ls 4 [(2, .int v_1), (0, .ref h), (1, .ref o)] → W p l e (headSpec w_X7_changeRing ({ frames := 2, cells := 0, slots := 0, locals := 50 })).room s m ([.ref h, .ref o] : List Value).toArray below meth c H_j2 locs 0 0 (MQ below (py_Qi E L f s.heap.size (fun _ L1 f1 => (DV G f1 o (fv_f f o)) ∧ WF E G L1 f1 ∧ RP E G f f1 ∧ KP G [33, 26, 37] true f f1)) ([.ref h, .ref o] : List Value).toArray s 0 0 (va_A (va_pl L f) s.heap.size)) (F0 m 2 ls []) := by
    intro n_2
    induction n_2 using Nat.strongRecOn with
    | _ n_2 ih_2 =>
      intro v_1 H_j2 locs ls hn_2 bv_1 hw hl
      refine lv_iload_n G0.1 G0.2.1 dX7_changeRing_2 rfl (lv_at hl 0 rfl) ?_
      refine lv_aload_n G0.1 G0.2.1 dX7_changeRing_3 rfl (lv_at hl 2 rfl) ?_
      obtain ⟨t_2, t_3, t_4, t_5, t_6, t_7, t_8, t_9, t_10⟩ := wt_2 hG To
      obtain ⟨r_11, y_12, v_13, hr_16, ty_14, b_15⟩ := wg_2 hWF To
      have tq_17 := fo_eq hr_16
      refine py_get (C := RX2) (T := TX2) (N := 12) (k := 9) (v := .ref r_11) G0 hw in_X7_changeRing_X2 rfl hr_16 (by decide) (by decide +kernel) rfl dX7_changeRing_4 ?_
      obtain ⟨t_18, t_19, t_20, t_21, t_22, t_23, t_24, t_25⟩ := wt_9 hG ty_14
      obtain ⟨v_26, v_27, hr_30, b_28, b_29⟩ := wg_9 hWF ty_14
      have tq_31 := va_eq hr_30
      refine py_get (C := RX9) (T := TX9) (N := 10) (k := 9) (v := .int v_27) G0 hw in_X7_changeRing_X9 rfl hr_30 (by decide) (by decide +kernel) rfl dX7_changeRing_7 ?_
      refine lv_icmp_ge (tgt := 50) G0.1 G0.2.1 dX7_changeRing_10 (by decide) (fun c_32 => ?_) (fun c_32 => ?_)
      · skip
        have tc_32 := ti_le c_32
        refine lv_iconst (v := 0) G0.1 G0.2.1 dX7_changeRing_50 (by decide) ?_
        exact py_iret G0 hr rfl hlk hw ⟨hDV, hWF, hRP, hKP⟩ dX7_changeRing_51
      · skip
        have tc_32 := ti_nle c_32
        refine lv_aload_n G0.1 G0.2.1 dX7_changeRing_13 rfl (lv_at hl 2 rfl) ?_
        refine py_get (C := RX2) (T := TX2) (N := 12) (k := 3) (v := .ref (G.2 o 3)) G0 hw in_X7_changeRing_X2 rfl hr_16 (by decide) (by decide +kernel) rfl dX7_changeRing_14 ?_
        refine lv_iload_n G0.1 G0.2.1 dX7_changeRing_17 rfl (lv_at hl 0 rfl) ?_
        obtain ⟨g_33, ha_34, hi_35⟩ := wf_arr (n := 10) (lo := (-2147483648)) (hi := 2147483647) hWF t_5 (by decide) (fun _ => rfl)
        have rg_36 : vp_in v_1 10 := ti_in (by omega) (by omega)
        refine py_iald G0 hw ha_34 rg_36 dX7_changeRing_18 ?_
        refine lv_topi (fun x_37 ex_37 => ?_)
        have bx_37 := wf_free x_37
        have qx_37 := ari_ld ha_34 ex_37
        refine lv_if_ne (tgt := 26) G0.1 G0.2.1 dX7_changeRing_19 (by decide) (fun c_38 => ?_) (fun c_38 => ?_)
        · skip
          have tc_38 := ti_ne c_38
          refine lv_aload_n G0.1 G0.2.1 dX7_changeRing_26 rfl (lv_at hl 2 rfl) ?_
          refine lv_iload_n G0.1 G0.2.1 dX7_changeRing_27 rfl (lv_at hl 0 rfl) ?_
          refine py_calli hw (va_runS (As := [.ref o, .int v_1]) (rest := []) G0 (c_X7_metTwice l E G L f H_j2.size o v_1 hG hWF To ⟨by omega, by omega⟩ (show ari f (G.2 o 3) v_1 ≠ 0 ∧ v_1.toInt < fv_f f o by omega)) (va_cwS 2 G0.2.2.2.2 g_X7_changeRing_X7_metTwice_143 rfl rfl rfl (by decide +kernel) ⟨(Nat.le_of_ble_eq_true rfl), (Nat.le_of_ble_eq_true rfl)⟩) (py_preS hw) rfl rfl hl.1 rfl (lv_room (Nat.le_of_ble_eq_true rfl)) dX7_changeRing_28 ⟨(Nat.le_of_ble_eq_true rfl), (Nat.le_of_ble_eq_true rfl)⟩) (fun r_43 L_39 f_40 H_41 locs hp_42 hw => ?_)
          obtain ⟨b_45, en_44, rfl, rfl⟩ := hp_42
          refine lv_istore_n (lv' := [(3, .int r_43), (2, .int v_1), (0, .ref h), (1, .ref o)]) G0.1 G0.2.1 dX7_changeRing_31 rfl hl (by decide) rfl (fun ls hl => ?_)
          refine lv_iload_n G0.1 G0.2.1 dX7_changeRing_32 rfl (lv_at hl 0 rfl) ?_
          refine lv_iconst (v := (-1)) G0.1 G0.2.1 dX7_changeRing_33 (by decide) ?_
          refine lv_icmp_eq (tgt := 44) G0.1 G0.2.1 dX7_changeRing_34 (by decide) (fun c_46 => ?_) (fun c_46 => ?_)
          · skip
            have tc_46 := ti_eq c_46
            obtain ⟨x_47, ex_47⟩ : ∃ y : Int32, y = v_1 + 1 := ⟨_, rfl⟩
            first | have tx_47 := ti_add ex_47 (by omega) (by omega) | skip
            refine lv_iinc (v := x_47) (lv' := [(2, .int x_47), (3, .int r_43), (0, .ref h), (1, .ref o)]) G0.1 G0.2.1 dX7_changeRing_44 hl (k := 1) rfl (show _ + (1 : Int32) = _ from ex_47.symm) (by decide) rfl (fun ls hl => ?_)
            refine lv_goto (tgt := 2) G0.1 G0.2.1 dX7_changeRing_47 (by decide) ?_
            exact ih_2 ((2147483647 - x_47.toInt).toNat) (by omega) x_47 _ _ ls rfl ⟨by omega, by omega⟩ hw (lv_sub hl [0, 2, 3] rfl)
          · skip
            have tc_46 := ti_ne c_46
            refine lv_aload_n G0.1 G0.2.1 dX7_changeRing_37 rfl (lv_at hl 2 rfl) ?_
            refine lv_aload_n G0.1 G0.2.1 dX7_changeRing_38 rfl (lv_at hl 3 rfl) ?_
            refine lv_iload_n G0.1 G0.2.1 dX7_changeRing_39 rfl (lv_at hl 0 rfl) ?_
            obtain ⟨t_48, t_49, t_50⟩ := wt_7 hG Th
            obtain ⟨v_51, v_52, hr_54, b_53⟩ := wg_7 hWF Th
            have bv_51 := wf_free v_51
            refine py_calli hw (va_runV (As := [.ref o, .int r_43]) (rest := []) G0 (c_X7_changeHuts l E G L f H_41.size h o r_43 hG hWF Th To ⟨by omega, by omega⟩ (show ari f (G.2 o 3) r_43 ≠ 0 ∧ r_43.toInt < fv_f f o by omega) hDV) (cwV 2 G0.2.2.2.2 g_X7_changeRing_X7_changeHuts_146 rfl rfl rfl (by decide +kernel) ⟨(Nat.le_of_ble_eq_true rfl), (Nat.le_of_ble_eq_true rfl)⟩) (py_preV hw (C := RX7) (T := TX7) (N := 5) rfl hr_54) rfl rfl hl.1 rfl (lv_room (Nat.le_of_ble_eq_true rfl)) dX7_changeRing_40 ⟨(Nat.le_of_ble_eq_true rfl), (Nat.le_of_ble_eq_true rfl)⟩) (fun r_59 L_55 f_56 H_57 locs hp_58 hw => ?_)
            obtain ⟨en_60, hWF, hq_61, kp_62⟩ := hp_58
            have hRP := hRP.trans hq_61
            have hKP := hKP.trans kp_62 (by decide) (by decide)
            have hr_16 := kp_at kp_62 hWF To (by decide) (by decide) (by decide) hr_16
            have tq_63 := fo_eq hr_16
            have tq_64 := fv_now hRP hKP (by decide) hWF To
            have hr_30 := kp_at kp_62 hWF ty_14 (by decide) (by decide) (by decide) hr_30
            have tq_65 := va_eq hr_30
            have hr_54 := kp_at kp_62 hWF Th (by decide) (by decide) (by decide) hr_54
            have hDV := en_60
            have br_59 := wf_free r_59
            exact py_iret G0 hr rfl hlk hw ⟨hDV, hWF, hRP, hKP⟩ dX7_changeRing_43
        · skip
          have tc_38 := ti_eq c_38
          refine lv_iconst (v := (-1)) G0.1 G0.2.1 dX7_changeRing_22 (by decide) ?_
          refine lv_goto (tgt := 31) G0.1 G0.2.1 dX7_changeRing_23 (by decide) ?_
          refine lv_istore_n (lv' := [(3, .int (-1)), (2, .int v_1), (0, .ref h), (1, .ref o)]) G0.1 G0.2.1 dX7_changeRing_31 rfl hl (by decide) rfl (fun ls hl => ?_)
          refine lv_iload_n G0.1 G0.2.1 dX7_changeRing_32 rfl (lv_at hl 0 rfl) ?_
          refine lv_iconst (v := (-1)) G0.1 G0.2.1 dX7_changeRing_33 (by decide) ?_
          refine lv_icmp_eq (tgt := 44) G0.1 G0.2.1 dX7_changeRing_34 (by decide) (fun c_66 => ?_) (fun c_66 => ?_)
          · skip
            have tc_66 := ti_eq c_66
            obtain ⟨x_67, ex_67⟩ : ∃ y : Int32, y = v_1 + 1 := ⟨_, rfl⟩
            first | have tx_67 := ti_add ex_67 (by omega) (by omega) | skip
            refine lv_iinc (v := x_67) (lv' := [(2, .int x_67), (3, .int (-1)), (0, .ref h), (1, .ref o)]) G0.1 G0.2.1 dX7_changeRing_44 hl (k := 1) rfl (show _ + (1 : Int32) = _ from ex_67.symm) (by decide) rfl (fun ls hl => ?_)
            refine lv_goto (tgt := 2) G0.1 G0.2.1 dX7_changeRing_47 (by decide) ?_
            exact ih_2 ((2147483647 - x_67.toInt).toNat) (by omega) x_67 _ _ ls rfl ⟨by omega, by omega⟩ hw (lv_sub hl [0, 2, 3] rfl)
          · skip
            exact absurd c_66 (by decide)
  exact lo_2 _ 0 _ _ ls rfl ⟨by omega, by omega⟩ hw (lv_sub hl [0, 1, 2] rfl)

def w_X7_moveAll : List Cond := .code yX7_moveAll cX7_moveAll 5 (some .int) :: ([Cond.methodLink RX7 116 yX7_settleDebts, Cond.static yX7_settleDebts, Cond.initialized RX7, Cond.methodLink RX7 120 yX7_moveIntoEmpty, Cond.instanceMethod yX7_moveIntoEmpty, Cond.selects RX7 yX7_moveIntoEmpty yX7_moveIntoEmpty, Cond.methodLink RX7 124 yX7_changeRing, Cond.instanceMethod yX7_changeRing, Cond.selects RX7 yX7_changeRing yX7_changeRing] ++ (w_X7_settleDebts ++ (w_X7_moveIntoEmpty ++ (w_X7_changeRing ++ ([])))))
theorem gg_X7_moveAll_X7_settleDebts : GoodIn w_X7_moveAll w_X7_settleDebts := goodIn_sub (fun _ h => List.mem_cons_of_mem _ (List.mem_append_right _ (List.mem_append_left _ h))) (by decide +kernel)
theorem gg_X7_moveAll_X7_moveIntoEmpty : GoodIn w_X7_moveAll w_X7_moveIntoEmpty := goodIn_sub (fun _ h => List.mem_cons_of_mem _ (List.mem_append_right _ (List.mem_append_right _ (List.mem_append_left _ h)))) (by decide +kernel)
theorem gg_X7_moveAll_X7_changeRing : GoodIn w_X7_moveAll w_X7_changeRing := goodIn_sub (fun _ h => List.mem_cons_of_mem _ (List.mem_append_right _ (List.mem_append_right _ (List.mem_append_right _ (List.mem_append_left _ h))))) (by decide +kernel)
theorem g_X7_moveAll_X7_changeRing_124 : GoodIn w_X7_moveAll (wsV RX7 124 RX7 yX7_changeRing w_X7_changeRing) := goodIn_app (goodIn_of _ (by decide +kernel)) gg_X7_moveAll_X7_changeRing
theorem g_X7_moveAll_X7_moveIntoEmpty_120 : GoodIn w_X7_moveAll (wsV RX7 120 RX7 yX7_moveIntoEmpty w_X7_moveIntoEmpty) := goodIn_app (goodIn_of _ (by decide +kernel)) gg_X7_moveAll_X7_moveIntoEmpty
theorem g_X7_moveAll_X7_settleDebts_116 : GoodIn w_X7_moveAll (va_wsS RX7 116 yX7_settleDebts w_X7_settleDebts) := goodIn_app (goodIn_of _ (by decide +kernel)) gg_X7_moveAll_X7_settleDebts
set_option maxHeartbeats 4000000 in
set_option maxRecDepth 100000 in
theorem c_X7_moveAll (l : Launch) (E : py_E) (G : wf_G) (L : List Nat) (f : py_F) (sz : Nat) (h : Nat) (o : Nat) (hG : GT G) (hWF : WF E G L f) (Th : G.1 h = 8) (To : G.1 o = 3) (hp0 : 1 ≤ fv_l f o) : Met l yX7_moveAll w_X7_moveAll ({ frames := 3, cells := 0, slots := 0, locals := 73 }) (py_Pc E [.ref h, .ref o] L f sz) (py_Qi E L f sz (fun _ L1 f1 => WF E G L1 f1 ∧ RP E G f f1 ∧ KP G [3, 26, 33, 37] true f f1)) 0 0 (va_A (va_pl L f) sz) := by
  refine Met.ofW (cc := cX7_moveAll) (maxL := 5) (ret := (some .int)) (by decide) rfl ?_
  intro p e s m args below meth c s₁ B hml hv
  obtain ⟨rfl, rfl, hw⟩ := py_start hv
  have G0 : CallFix p m c cX7_moveAll 5 s _ w_X7_moveAll RX7 := ⟨B.exec, B.bytes, hml, findClass_of_methodNamed B.named, atoms_spec (ws := w_X7_moveAll) B.pre⟩
  have hr := B.returns
  have hlk := B.notSynchronized
  have kcm1 : (-1 : Int32).toInt = -1 := rfl
  have kc0 : (0 : Int32).toInt = 0 := rfl
  have kc1 : (1 : Int32).toInt = 1 := rfl
  have kc10 : (10 : Int32).toInt = 10 := rfl
  have hl := lv_entry ([.ref h, .ref o]) (n := 5) (Nat.le_of_ble_eq_true rfl)
  rw [lg_entry_eq]
  generalize (lg_sl ([.ref h, .ref o]) ++ List.replicate (5 - (lg_sl ([.ref h, .ref o])).length) Slot.unset).toArray = ls at hl ⊢
  have hl : lv_has ls 5 [(0, .ref h), (1, .ref o)] := hl
  have hRP : RP E G f f := RP.refl
  have hKP : KP G [3, 26, 33, 37] true f f := KP.refl
  refine lv_aload_n G0.1 G0.2.1 dX7_moveAll_0 rfl (lv_at hl 1 rfl) ?_
  refine py_callv hw (va_runS (As := [.ref o]) (rest := []) G0 (c_X7_settleDebts l E G L f s.heap.size o hG hWF To (show 1 ≤ fv_l f o by omega)) (va_cwS 1 G0.2.2.2.2 g_X7_moveAll_X7_settleDebts_116 rfl rfl rfl (by decide +kernel) ⟨(Nat.le_of_ble_eq_true rfl), (Nat.le_of_ble_eq_true rfl)⟩) (py_preS hw) rfl rfl hl.1 rfl (lv_room (Nat.le_of_ble_eq_true rfl)) dX7_moveAll_1 ⟨(Nat.le_of_ble_eq_true rfl), (Nat.le_of_ble_eq_true rfl)⟩) (fun L_1 f_2 H_3 locs hp_4 hw => ?_)
  obtain ⟨en_6, hWF, hq_7, kp_8⟩ := hp_4
  have hRP := hRP.trans hq_7
  have hKP := hKP.trans kp_8 (by decide) (by decide)
  have hDV := en_6
  refine lv_iconst (v := 0) G0.1 G0.2.1 dX7_moveAll_4 (by decide) ?_
  refine lv_istore_n (lv' := [(2, .int 0), (0, .ref h), (1, .ref o)]) G0.1 G0.2.1 dX7_moveAll_5 rfl hl (by decide) rfl (fun ls hl => ?_)
  refine lv_iconst (v := 0) G0.1 G0.2.1 dX7_moveAll_6 (by decide) ?_
  refine lv_istore_n (lv' := [(3, .int 0), (2, .int 0), (0, .ref h), (1, .ref o)]) G0.1 G0.2.1 dX7_moveAll_7 rfl hl (by decide) rfl (fun ls hl => ?_)
  have lo_8 : ∀ n_8 : Nat, ∀ (v_9 : Int32) (v_10 : Int32) (L_j8 : List Nat) (f_j8 : py_F) (H_j8 : Heap) (locs : List Loc) (ls : Array Slot), (2147483647 - v_9.toInt).toNat = n_8 → (0 ≤ v_9.toInt ∧ v_9.toInt ≤ 2147483647) → WF E G L_j8 f_j8 → RP E G f f_j8 → KP G [3, 26, 33, 37] true f f_j8 → DV G f_j8 o (fv_f f o) → py_W E (va_A (va_pl L f) s.heap.size) s L_j8 f_j8 H_j8 locs → lv_has ls 5 [(3, .int v_9), (2, .int v_10), (0, .ref h), (1, .ref o)] → W p l e (headSpec w_X7_moveAll ({ frames := 3, cells := 0, slots := 0, locals := 73 })).room s m ([.ref h, .ref o] : List Value).toArray below meth c H_j8 locs 0 0 (MQ below (py_Qi E L f s.heap.size (fun _ L1 f1 => WF E G L1 f1 ∧ RP E G f f1 ∧ KP G [3, 26, 33, 37] true f f1)) ([.ref h, .ref o] : List Value).toArray s 0 0 (va_A (va_pl L f) s.heap.size)) (F0 m 8 ls []) := by
    intro n_8
    induction n_8 using Nat.strongRecOn with
    | _ n_8 ih_8 =>
      intro v_9 v_10 L_j8 f_j8 H_j8 locs ls hn_8 bv_9 hWF hRP hKP hDV hw hl
      refine lv_iload_n G0.1 G0.2.1 dX7_moveAll_8 rfl (lv_at hl 0 rfl) ?_
      refine lv_bipush (v := 10) G0.1 G0.2.1 dX7_moveAll_9 (by decide) ?_
      refine lv_icmp_ge (tgt := 52) G0.1 G0.2.1 dX7_moveAll_11 (by decide) (fun c_11 => ?_) (fun c_11 => ?_)
      · skip
        have tc_11 := ti_le c_11
        refine lv_iload_n G0.1 G0.2.1 dX7_moveAll_52 rfl (lv_at hl 1 rfl) ?_
        exact py_iret G0 hr rfl hlk hw ⟨hWF, hRP, hKP⟩ dX7_moveAll_53
      · skip
        have tc_11 := ti_nle c_11
        have hnw := fv_now hRP hKP (by decide) hWF To
        refine lv_aload_n G0.1 G0.2.1 dX7_moveAll_14 rfl (lv_at hl 2 rfl) ?_
        refine lv_aload_n G0.1 G0.2.1 dX7_moveAll_15 rfl (lv_at hl 3 rfl) ?_
        obtain ⟨t_12, t_13, t_14⟩ := wt_7 hG Th
        obtain ⟨v_15, v_16, hr_18, b_17⟩ := wg_7 hWF Th
        have bv_15 := wf_free v_15
        refine py_calli hw (va_runV (As := [.ref o]) (rest := []) G0 (c_X7_moveIntoEmpty l E G L_j8 f_j8 H_j8.size h o hG hWF Th To (hDV.cast (by have hz := fv_now hRP hKP (by decide) hWF To; omega))) (cwV 1 G0.2.2.2.2 g_X7_moveAll_X7_moveIntoEmpty_120 rfl rfl rfl (by decide +kernel) ⟨(Nat.le_of_ble_eq_true rfl), (Nat.le_of_ble_eq_true rfl)⟩) (py_preV hw (C := RX7) (T := TX7) (N := 5) rfl hr_18) rfl rfl hl.1 rfl (lv_room (Nat.le_of_ble_eq_true rfl)) dX7_moveAll_16 ⟨(Nat.le_of_ble_eq_true rfl), (Nat.le_of_ble_eq_true rfl)⟩) (fun r_23 L_19 f_20 H_21 locs hp_22 hw => ?_)
        obtain ⟨en_24, hWF, hq_25, kp_26⟩ := hp_22
        have hRP := hRP.trans hq_25
        have hKP := hKP.trans kp_26 (by decide) (by decide)
        have hr_18 := kp_at kp_26 hWF Th (by decide) (by decide) (by decide) hr_18
        have hDV : DV G f_20 o (fv_f f o) := en_24.cast (by omega)
        have br_23 := wf_free r_23
        refine lv_istore (lv' := [(4, .int r_23), (3, .int v_9), (2, .int v_10), (0, .ref h), (1, .ref o)]) G0.1 G0.2.1 dX7_moveAll_19 hl (by decide) rfl (fun ls hl => ?_)
        refine lv_iload G0.1 G0.2.1 dX7_moveAll_21 (lv_at hl 0 rfl) ?_
        refine lv_if_ne (tgt := 33) G0.1 G0.2.1 dX7_moveAll_23 (by decide) (fun c_27 => ?_) (fun c_27 => ?_)
        · skip
          have tc_27 := ti_ne c_27
          refine lv_iload G0.1 G0.2.1 dX7_moveAll_33 (lv_at hl 0 rfl) ?_
          refine lv_if_ne (tgt := 41) G0.1 G0.2.1 dX7_moveAll_35 (by decide) (fun c_28 => ?_) (fun c_28 => ?_)
          · skip
            have tc_28 := ti_ne c_28
            refine lv_iload_n G0.1 G0.2.1 dX7_moveAll_41 rfl (lv_at hl 2 rfl) ?_
            refine lv_iload G0.1 G0.2.1 dX7_moveAll_42 (lv_at hl 0 rfl) ?_
            refine lv_iadd G0.1 G0.2.1 dX7_moveAll_44 ?_
            refine lv_topi (fun x_29 ex_29 => ?_)
            first | have tx_29 := ti_add ex_29 (by omega) (by omega) | skip
            refine lv_istore_n (lv' := [(2, .int x_29), (4, .int r_23), (3, .int v_9), (0, .ref h), (1, .ref o)]) G0.1 G0.2.1 dX7_moveAll_45 rfl hl (by decide) rfl (fun ls hl => ?_)
            obtain ⟨x_30, ex_30⟩ : ∃ y : Int32, y = v_9 + 1 := ⟨_, rfl⟩
            first | have tx_30 := ti_add ex_30 (by omega) (by omega) | skip
            refine lv_iinc (v := x_30) (lv' := [(3, .int x_30), (2, .int x_29), (4, .int r_23), (0, .ref h), (1, .ref o)]) G0.1 G0.2.1 dX7_moveAll_46 hl (k := 2) rfl (show _ + (1 : Int32) = _ from ex_30.symm) (by decide) rfl (fun ls hl => ?_)
            refine lv_goto (tgt := 8) G0.1 G0.2.1 dX7_moveAll_49 (by decide) ?_
            exact ih_8 ((2147483647 - x_30.toInt).toNat) (by omega) x_30 x_29 L_19 f_20 _ _ ls rfl ⟨by omega, by omega⟩ hWF hRP hKP hDV hw (lv_sub hl [0, 1, 3, 4] rfl)
          · skip
            have tc_28 := ti_eq c_28
            refine lv_goto (tgt := 52) G0.1 G0.2.1 dX7_moveAll_38 (by decide) ?_
            refine lv_iload_n G0.1 G0.2.1 dX7_moveAll_52 rfl (lv_at hl 2 rfl) ?_
            exact py_iret G0 hr rfl hlk hw ⟨hWF, hRP, hKP⟩ dX7_moveAll_53
        · skip
          have tc_27 := ti_eq c_27
          have hnw := fv_now hRP hKP (by decide) hWF To
          refine lv_aload_n G0.1 G0.2.1 dX7_moveAll_26 rfl (lv_at hl 3 rfl) ?_
          refine lv_aload_n G0.1 G0.2.1 dX7_moveAll_27 rfl (lv_at hl 4 rfl) ?_
          refine py_calli hw (va_runV (As := [.ref o]) (rest := []) G0 (c_X7_changeRing l E G L_19 f_20 H_21.size h o hG hWF Th To (hDV.cast (by have hz := fv_now hRP hKP (by decide) hWF To; omega))) (cwV 1 G0.2.2.2.2 g_X7_moveAll_X7_changeRing_124 rfl rfl rfl (by decide +kernel) ⟨(Nat.le_of_ble_eq_true rfl), (Nat.le_of_ble_eq_true rfl)⟩) (py_preV hw (C := RX7) (T := TX7) (N := 5) rfl hr_18) rfl rfl hl.1 rfl (lv_room (Nat.le_of_ble_eq_true rfl)) dX7_moveAll_28 ⟨(Nat.le_of_ble_eq_true rfl), (Nat.le_of_ble_eq_true rfl)⟩) (fun r_35 L_31 f_32 H_33 locs hp_34 hw => ?_)
          obtain ⟨en_36, hWF, hq_37, kp_38⟩ := hp_34
          have hRP := hRP.trans hq_37
          have hKP := hKP.trans kp_38 (by decide) (by decide)
          have hr_18 := kp_at kp_38 hWF Th (by decide) (by decide) (by decide) hr_18
          have hDV : DV G f_32 o (fv_f f o) := en_36.cast (by omega)
          have br_35 := wf_free r_35
          refine lv_istore (lv' := [(4, .int r_35), (3, .int v_9), (2, .int v_10), (0, .ref h), (1, .ref o)]) G0.1 G0.2.1 dX7_moveAll_31 hl (by decide) rfl (fun ls hl => ?_)
          refine lv_iload G0.1 G0.2.1 dX7_moveAll_33 (lv_at hl 0 rfl) ?_
          refine lv_if_ne (tgt := 41) G0.1 G0.2.1 dX7_moveAll_35 (by decide) (fun c_39 => ?_) (fun c_39 => ?_)
          · skip
            have tc_39 := ti_ne c_39
            refine lv_iload_n G0.1 G0.2.1 dX7_moveAll_41 rfl (lv_at hl 2 rfl) ?_
            refine lv_iload G0.1 G0.2.1 dX7_moveAll_42 (lv_at hl 0 rfl) ?_
            refine lv_iadd G0.1 G0.2.1 dX7_moveAll_44 ?_
            refine lv_topi (fun x_40 ex_40 => ?_)
            first | have tx_40 := ti_add ex_40 (by omega) (by omega) | skip
            refine lv_istore_n (lv' := [(2, .int x_40), (4, .int r_35), (3, .int v_9), (0, .ref h), (1, .ref o)]) G0.1 G0.2.1 dX7_moveAll_45 rfl hl (by decide) rfl (fun ls hl => ?_)
            obtain ⟨x_41, ex_41⟩ : ∃ y : Int32, y = v_9 + 1 := ⟨_, rfl⟩
            first | have tx_41 := ti_add ex_41 (by omega) (by omega) | skip
            refine lv_iinc (v := x_41) (lv' := [(3, .int x_41), (2, .int x_40), (4, .int r_35), (0, .ref h), (1, .ref o)]) G0.1 G0.2.1 dX7_moveAll_46 hl (k := 2) rfl (show _ + (1 : Int32) = _ from ex_41.symm) (by decide) rfl (fun ls hl => ?_)
            refine lv_goto (tgt := 8) G0.1 G0.2.1 dX7_moveAll_49 (by decide) ?_
            exact ih_8 ((2147483647 - x_41.toInt).toNat) (by omega) x_41 x_40 L_31 f_32 _ _ ls rfl ⟨by omega, by omega⟩ hWF hRP hKP hDV hw (lv_sub hl [0, 1, 3, 4] rfl)
          · skip
            have tc_39 := ti_eq c_39
            refine lv_goto (tgt := 52) G0.1 G0.2.1 dX7_moveAll_38 (by decide) ?_
            refine lv_iload_n G0.1 G0.2.1 dX7_moveAll_52 rfl (lv_at hl 2 rfl) ?_
            exact py_iret G0 hr rfl hlk hw ⟨hWF, hRP, hKP⟩ dX7_moveAll_53
  exact lo_8 _ 0 0 L_1 f_2 _ _ ls rfl ⟨by omega, by omega⟩ hWF hRP hKP hDV hw (lv_sub hl [0, 1, 2, 3] rfl)

def w_X2_settle : List Cond := .code yX2_settle cX2_settle 4 none :: ([Cond.fieldLink RX2 43 "HeadYear$Folk" "valley" "LHeadYear$Valley;", Cond.fieldLink RX2 51 "HeadYear$Folk" "years" "I", Cond.fieldLink RX2 55 "HeadYear$Valley" "families" "I", Cond.fieldLink RX2 62 "HeadYear$Valley" "firstLevel" "[I", Cond.fieldLink RX2 11 "HeadYear$Folk" "heads" "[I", Cond.fieldLink RX2 65 "HeadYear$Valley" "firstHeads" "[I", Cond.fieldLink RX2 20 "HeadYear$Folk" "hut" "[I", Cond.methodLink RX2 68 yX2_emptyHut, Cond.instanceMethod yX2_emptyHut, Cond.selects RX2 yX2_emptyHut yX2_emptyHut, Cond.initialized RX2, Cond.fieldLink RX2 17 "HeadYear$Folk" "level" "[I", Cond.methodLink RX2 58 yX2_empty, Cond.instanceMethod yX2_empty, Cond.selects RX2 yX2_empty yX2_empty, Cond.fieldLink RX2 26 "HeadYear$Folk" "born" "[I", Cond.fieldLink RX2 29 "HeadYear$Folk" "dead" "[I", Cond.fieldLink RX2 35 "HeadYear$Folk" "spent" "[I"] ++ (u_ws RX2 TX2 12 ++ (u_ws RX9 TX9 10 ++ (w_X2_emptyHut ++ (w_X2_empty ++ ([]))))))
theorem in_X2_settle_X2 : ∀ w ∈ u_ws RX2 TX2 12, w ∈ w_X2_settle := fun _ h => List.mem_cons_of_mem _ (List.mem_append_right _ (List.mem_append_left _ h))
theorem in_X2_settle_X9 : ∀ w ∈ u_ws RX9 TX9 10, w ∈ w_X2_settle := fun _ h => List.mem_cons_of_mem _ (List.mem_append_right _ (List.mem_append_right _ (List.mem_append_left _ h)))
theorem gg_X2_settle_X2_emptyHut : GoodIn w_X2_settle w_X2_emptyHut := goodIn_sub (fun _ h => List.mem_cons_of_mem _ (List.mem_append_right _ (List.mem_append_right _ (List.mem_append_right _ (List.mem_append_left _ h))))) (by decide +kernel)
theorem gg_X2_settle_X2_empty : GoodIn w_X2_settle w_X2_empty := goodIn_sub (fun _ h => List.mem_cons_of_mem _ (List.mem_append_right _ (List.mem_append_right _ (List.mem_append_right _ (List.mem_append_right _ (List.mem_append_left _ h)))))) (by decide +kernel)
theorem g_X2_settle_X2_empty_58 : GoodIn w_X2_settle (wsV RX2 58 RX2 yX2_empty w_X2_empty) := goodIn_app (goodIn_of _ (by decide +kernel)) gg_X2_settle_X2_empty
theorem g_X2_settle_X2_emptyHut_68 : GoodIn w_X2_settle (wsV RX2 68 RX2 yX2_emptyHut w_X2_emptyHut) := goodIn_app (goodIn_of _ (by decide +kernel)) gg_X2_settle_X2_emptyHut
set_option maxHeartbeats 4000000 in
set_option maxRecDepth 100000 in
theorem c_X2_settle (l : Launch) (E : py_E) (G : wf_G) (L : List Nat) (f : py_F) (sz : Nat) (h : Nat) (q : Nat) (hG : GT G) (hWF : WF E G L f) (Th : G.1 h = 3) (Tq : G.1 q = 10) : Met l yX2_settle w_X2_settle ({ frames := 2, cells := 0, slots := 0, locals := 47 }) (py_Pc E [.ref h, .ref q] L f sz) (py_Qv E L f sz (fun L1 f1 => (fo_v f1 h = q ∧ fo_y f1 h = 0) ∧ WF E G L1 f1 ∧ RPv E G h f f1 ∧ KP G [3, 26, 37, 30] true f f1)) 0 0 (va_A (va_pl L f) sz) := by
  refine Met.ofW (cc := cX2_settle) (maxL := 4) (ret := none) (by decide) rfl ?_
  intro p e s m args below meth c s₁ B hml hv
  obtain ⟨rfl, rfl, hw⟩ := py_start hv
  have G0 : CallFix p m c cX2_settle 4 s _ w_X2_settle RX2 := ⟨B.exec, B.bytes, hml, findClass_of_methodNamed B.named, atoms_spec (ws := w_X2_settle) B.pre⟩
  have hr := B.returns
  have hlk := B.notSynchronized
  have kcm1 : (-1 : Int32).toInt = -1 := rfl
  have kc0 : (0 : Int32).toInt = 0 := rfl
  have kc1 : (1 : Int32).toInt = 1 := rfl
  have hl := lv_entry ([.ref h, .ref q]) (n := 4) (Nat.le_of_ble_eq_true rfl)
  rw [lg_entry_eq]
  generalize (lg_sl ([.ref h, .ref q]) ++ List.replicate (4 - (lg_sl ([.ref h, .ref q])).length) Slot.unset).toArray = ls at hl ⊢
  have hl : lv_has ls 4 [(0, .ref h), (1, .ref q)] := hl
  have hRP : RP E G f f := RP.refl
  have hKP : KP G [3, 26, 37, 30] true f f := KP.refl
  refine lv_aload_n G0.1 G0.2.1 dX2_settle_0 rfl (lv_at hl 0 rfl) ?_
  refine lv_aload_n G0.1 G0.2.1 dX2_settle_1 rfl (lv_at hl 1 rfl) ?_
  obtain ⟨t_1, t_2, t_3, t_4, t_5, t_6, t_7, t_8, t_9⟩ := wt_2 hG Th
  obtain ⟨r_10, y_11, v_12, hr_15, ty_13, b_14⟩ := wg_2 hWF Th
  have hfo_16 := (hRP h Th).2
  have hRP : RPv E G h f f := hRP.toV
  refine py_put (C := RX2) (T := TX2) (N := 12) (k := 9) (v := .ref q) (fs' := [.ref (G.2 h 0), .ref (G.2 h 1), .ref (G.2 h 2), .ref (G.2 h 3), .ref (G.2 h 4), .ref (G.2 h 5), .ref (G.2 h 6), .ref (G.2 h 7), .ref (G.2 h 8), .ref q, .long y_11, .int v_12]) (ty0 := tyX2) G0 hw tyX2_ok nmX2 in_X2_settle_X2 rfl hr_15 (by decide) (by decide +kernel) rfl rfl rfl rfl (Nat.le_of_ble_eq_true rfl) rfl dX2_settle_2 (fun f_17 H_18 locs h_19 x_20 hw => ?_)
  have hKP := hKP.upd hWF x_20 Th (Or.inl (by decide))
  have hRP := hRP.trans (rpv_upd hG hWF x_20 hr_15.2 h_19.2 (rp_code hG Th (by decide)) (by first | exact Or.inr rfl | exact Or.inl rfl))
  have hWF := wf_upd hWF h_19 x_20 (by rw [Th]; exact ⟨q, y_11, v_12, rfl, Tq, ⟨by omega, by omega⟩⟩)
  refine lv_aload_n G0.1 G0.2.1 dX2_settle_5 rfl (lv_at hl 0 rfl) ?_
  refine lv_iconst (v := 0) G0.1 G0.2.1 dX2_settle_6 (by decide) ?_
  refine py_put (C := RX2) (T := TX2) (N := 12) (k := 11) (v := .int 0) (fs' := [.ref (G.2 h 0), .ref (G.2 h 1), .ref (G.2 h 2), .ref (G.2 h 3), .ref (G.2 h 4), .ref (G.2 h 5), .ref (G.2 h 6), .ref (G.2 h 7), .ref (G.2 h 8), .ref q, .long y_11, .int 0]) (ty0 := tyX2) G0 hw tyX2_ok nmX2 in_X2_settle_X2 rfl h_19 (by decide) (by decide +kernel) rfl rfl rfl rfl (Nat.le_of_ble_eq_true rfl) rfl dX2_settle_7 (fun f_21 H_22 locs h_23 x_24 hw => ?_)
  have hKP := hKP.upd hWF x_24 Th (Or.inl (by decide))
  have hRP := hRP.trans (rpv_upd hG hWF x_24 h_19.2 h_23.2 (rp_code hG Th (by decide)) (by first | exact Or.inr rfl | exact Or.inl rfl))
  have hWF := wf_upd hWF h_23 x_24 (by rw [Th]; exact ⟨q, y_11, 0, rfl, Tq, ⟨by omega, by omega⟩⟩)
  have hFO : fo_v f_21 h = q ∧ fo_y f_21 h = 0 := ⟨(fo_eq h_23).1, (fo_eq h_23).2.1⟩
  refine lv_iconst (v := 0) G0.1 G0.2.1 dX2_settle_10 (by decide) ?_
  refine lv_istore_n (lv' := [(2, .int 0), (0, .ref h), (1, .ref q)]) G0.1 G0.2.1 dX2_settle_11 rfl hl (by decide) rfl (fun ls hl => ?_)
  have lo_12 : ∀ n_12 : Nat, ∀ (v_25 : Int32) (L_j12 : List Nat) (f_j12 : py_F) (H_j12 : Heap) (locs : List Loc) (ls : Array Slot), (2147483647 - v_25.toInt).toNat = n_12 → (0 ≤ v_25.toInt ∧ v_25.toInt ≤ 2147483647) → WF E G L_j12 f_j12 → RPv E G h f f_j12 → KP G [3, 26, 37, 30] true f f_j12 → fo_v f_j12 h = q ∧ fo_y f_j12 h = 0 → py_W E (va_A (va_pl L f) s.heap.size) s L_j12 f_j12 H_j12 locs → lv_has ls 4 [(2, .int v_25), (0, .ref h), (1, .ref q)] → W p l e (headSpec w_X2_settle ({ frames := 2, cells := 0, slots := 0, locals := 47 })).room s m ([.ref h, .ref q] : List Value).toArray below meth c H_j12 locs 0 0 (MQ below (py_Qv E L f s.heap.size (fun L1 f1 => (fo_v f1 h = q ∧ fo_y f1 h = 0) ∧ WF E G L1 f1 ∧ RPv E G h f f1 ∧ KP G [3, 26, 37, 30] true f f1)) ([.ref h, .ref q] : List Value).toArray s 0 0 (va_A (va_pl L f) s.heap.size)) (F0 m 12 ls []) := by
    intro n_12
    induction n_12 using Nat.strongRecOn with
    | _ n_12 ih_12 =>
      intro v_25 L_j12 f_j12 H_j12 locs ls hn_12 bv_25 hWF hRP hKP hFO hw hl
      refine lv_iload_n G0.1 G0.2.1 dX2_settle_12 rfl (lv_at hl 0 rfl) ?_
      refine lv_aload_n G0.1 G0.2.1 dX2_settle_13 rfl (lv_at hl 2 rfl) ?_
      obtain ⟨t_26, t_27, t_28, t_29, t_30, t_31, t_32, t_33⟩ := wt_9 hG Tq
      obtain ⟨v_34, v_35, hr_38, b_36, b_37⟩ := wg_9 hWF Tq
      have tq_39 := va_eq hr_38
      refine py_get (C := RX9) (T := TX9) (N := 10) (k := 9) (v := .int v_35) G0 hw in_X2_settle_X9 rfl hr_38 (by decide) (by decide +kernel) rfl dX2_settle_14 ?_
      refine lv_icmp_ge (tgt := 52) G0.1 G0.2.1 dX2_settle_17 (by decide) (fun c_40 => ?_) (fun c_40 => ?_)
      · skip
        have tc_40 := ti_le c_40
        refine lv_iconst (v := 0) G0.1 G0.2.1 dX2_settle_52 (by decide) ?_
        refine lv_istore_n (lv' := [(2, .int 0), (0, .ref h), (1, .ref q)]) G0.1 G0.2.1 dX2_settle_53 rfl hl (by decide) rfl (fun ls hl => ?_)
        have lo_54 : ∀ n_54 : Nat, ∀ (v_41 : Int32) (L_j54 : List Nat) (f_j54 : py_F) (H_j54 : Heap) (locs : List Loc) (ls : Array Slot), (2147483647 - v_41.toInt).toNat = n_54 → (0 ≤ v_41.toInt ∧ v_41.toInt ≤ 2147483647) → WF E G L_j54 f_j54 → RPv E G h f f_j54 → KP G [3, 26, 37, 30] true f f_j54 → fo_v f_j54 h = q ∧ fo_y f_j54 h = 0 → py_W E (va_A (va_pl L f) s.heap.size) s L_j54 f_j54 H_j54 locs → lv_has ls 4 [(2, .int v_41), (0, .ref h), (1, .ref q)] → W p l e (headSpec w_X2_settle ({ frames := 2, cells := 0, slots := 0, locals := 47 })).room s m ([.ref h, .ref q] : List Value).toArray below meth c H_j54 locs 0 0 (MQ below (py_Qv E L f s.heap.size (fun L1 f1 => (fo_v f1 h = q ∧ fo_y f1 h = 0) ∧ WF E G L1 f1 ∧ RPv E G h f f1 ∧ KP G [3, 26, 37, 30] true f f1)) ([.ref h, .ref q] : List Value).toArray s 0 0 (va_A (va_pl L f) s.heap.size)) (F0 m 54 ls []) := by
          intro n_54
          induction n_54 using Nat.strongRecOn with
          | _ n_54 ih_54 =>
            intro v_41 L_j54 f_j54 H_j54 locs ls hn_54 bv_41 hWF hRP hKP hFO hw hl
            refine lv_iload_n G0.1 G0.2.1 dX2_settle_54 rfl (lv_at hl 0 rfl) ?_
            refine lv_aload_n G0.1 G0.2.1 dX2_settle_55 rfl (lv_at hl 2 rfl) ?_
            obtain ⟨v_42, v_43, hr_46, b_44, b_45⟩ := wg_9 hWF Tq
            have tq_47 := va_eq hr_46
            refine py_get (C := RX9) (T := TX9) (N := 10) (k := 9) (v := .int v_43) G0 hw in_X2_settle_X9 rfl hr_46 (by decide) (by decide +kernel) rfl dX2_settle_56 ?_
            refine lv_icmp_ge (tgt := 106) G0.1 G0.2.1 dX2_settle_59 (by decide) (fun c_48 => ?_) (fun c_48 => ?_)
            · skip
              have tc_48 := ti_le c_48
              exact py_vret G0 hr hlk hw ⟨(by first | omega | (intro q; omega)), hWF, hRP, hKP⟩ dX2_settle_106
            · skip
              have tc_48 := ti_nle c_48
              refine lv_aload_n G0.1 G0.2.1 dX2_settle_62 rfl (lv_at hl 2 rfl) ?_
              refine py_get (C := RX9) (T := TX9) (N := 10) (k := 5) (v := .ref (G.2 q 5)) G0 hw in_X2_settle_X9 rfl hr_46 (by decide) (by decide +kernel) rfl dX2_settle_63 ?_
              refine lv_iload_n G0.1 G0.2.1 dX2_settle_66 rfl (lv_at hl 0 rfl) ?_
              obtain ⟨g_49, ha_50, hi_51⟩ := wf_arr (n := 10) (lo := 0) (hi := 7) hWF t_31 (by decide) (fun _ => rfl)
              have rg_52 : vp_in v_41 10 := ti_in (by omega) (by omega)
              refine py_iald G0 hw ha_50 rg_52 dX2_settle_67 ?_
              refine lv_topi (fun x_53 ex_53 => ?_)
              have bx_53 := ti_at hi_51 rg_52 ex_53
              refine lv_istore_n (lv' := [(3, .int x_53), (2, .int v_41), (0, .ref h), (1, .ref q)]) G0.1 G0.2.1 dX2_settle_68 rfl hl (by decide) rfl (fun ls hl => ?_)
              refine lv_aload_n G0.1 G0.2.1 dX2_settle_69 rfl (lv_at hl 2 rfl) ?_
              obtain ⟨r_54, y_55, v_56, hr_59, ty_57, b_58⟩ := wg_2 hWF Th
              refine py_get (C := RX2) (T := TX2) (N := 12) (k := 0) (v := .ref (G.2 h 0)) G0 hw in_X2_settle_X2 rfl hr_59 (by decide) (by decide +kernel) rfl dX2_settle_70 ?_
              refine lv_iload_n G0.1 G0.2.1 dX2_settle_73 rfl (lv_at hl 1 rfl) ?_
              refine lv_aload_n G0.1 G0.2.1 dX2_settle_74 rfl (lv_at hl 3 rfl) ?_
              refine py_get (C := RX9) (T := TX9) (N := 10) (k := 4) (v := .ref (G.2 q 4)) G0 hw in_X2_settle_X9 rfl hr_46 (by decide) (by decide +kernel) rfl dX2_settle_75 ?_
              refine lv_iload_n G0.1 G0.2.1 dX2_settle_78 rfl (lv_at hl 1 rfl) ?_
              obtain ⟨g_60, ha_61, hi_62⟩ := wf_arr (n := 10) (lo := 0) (hi := 20) hWF t_30 (by decide) (fun _ => rfl)
              have rg_63 : vp_in v_41 10 := ti_in (by omega) (by omega)
              refine py_iald G0 hw ha_61 rg_63 dX2_settle_79 ?_
              refine lv_topi (fun x_64 ex_64 => ?_)
              have bx_64 := ti_at hi_62 rg_63 ex_64
              obtain ⟨g_65, ha_66, hi_67⟩ := wf_arr (n := 10) (lo := 0) (hi := 20) hWF t_1 (by omega) (wf_own0 E G _ h)
              have rg_68 : vp_in v_41 10 := ti_in (by omega) (by omega)
              refine py_iast G0 hw ha_66 rg_68 dX2_settle_80 (fun f_69 H_70 locs h_71 x_72 hw => ?_)
              have hFO := fo_now hFO (fo_arr hWF Th x_72 ha_66)
              have hKP := hKP.upd hWF x_72 t_1 (Or.inr ⟨rfl, by omega⟩)
              have hRPx := rpx_heads hG hWF Th hRP x_72 ha_66 h_71
              have hh0 := h_71
              have hi_73 := wf_inu (k := (v_41 : Int32).toNatClampNeg) (x := x_64) hi_67 (by omega) (by omega)
              have hWF := wf_upd hWF h_71 x_72 (by rw [t_1, wf_own0]; exact ⟨_, rfl, hi_73⟩)
              have hr_46 := hr_46.ext x_72 (py_ne_arr hr_46 ha_66)
              have tq_74 := va_eq hr_46
              have hr_59 := hr_59.ext x_72 (py_ne_arr hr_59 ha_66)
              refine lv_aload_n G0.1 G0.2.1 dX2_settle_81 rfl (lv_at hl 2 rfl) ?_
              refine py_get (C := RX2) (T := TX2) (N := 12) (k := 2) (v := .ref (G.2 h 2)) G0 hw in_X2_settle_X2 rfl hr_59 (by decide) (by decide +kernel) rfl dX2_settle_82 ?_
              refine lv_iload_n G0.1 G0.2.1 dX2_settle_85 rfl (lv_at hl 1 rfl) ?_
              refine lv_aload_n G0.1 G0.2.1 dX2_settle_86 rfl (lv_at hl 2 rfl) ?_
              refine lv_iload_n G0.1 G0.2.1 dX2_settle_87 rfl (lv_at hl 0 rfl) ?_
              refine lv_iconst (v := 0) G0.1 G0.2.1 dX2_settle_88 (by decide) ?_
              refine py_calli hw (va_runV (As := [.int x_53, .int 0]) (rest := [.int v_41, .ref (G.2 h 2)]) G0 (c_X2_emptyHut l E G L_j54 f_69 H_70.size h x_53 0 hG hWF Th ⟨by omega, by omega⟩) (cwV 2 G0.2.2.2.2 g_X2_settle_X2_emptyHut_68 rfl rfl rfl (by decide +kernel) ⟨(Nat.le_of_ble_eq_true rfl), (Nat.le_of_ble_eq_true rfl)⟩) (py_preV hw (C := RX2) (T := TX2) (N := 12) rfl hr_59) rfl rfl hl.1 rfl (lv_room (Nat.le_of_ble_eq_true rfl)) dX2_settle_89 ⟨(Nat.le_of_ble_eq_true rfl), (Nat.le_of_ble_eq_true rfl)⟩) (fun r_79 L_75 f_76 H_77 locs hp_78 hw => ?_)
              obtain ⟨rfl, rfl⟩ := hp_78
              have br_79 := wf_free r_79
              obtain ⟨g_80, ha_81, hi_82⟩ := wf_arr (n := 10) (lo := (-2147483648)) (hi := 2147483647) hWF t_3 (by decide) (fun _ => rfl)
              have rg_83 : vp_in v_41 10 := ti_in (by omega) (by omega)
              refine py_iast G0 hw ha_81 rg_83 dX2_settle_92 (fun f_84 H_85 locs h_86 x_87 hw => ?_)
              have hFO := fo_now hFO (fo_arr hWF Th x_87 ha_81)
              have hKP := hKP.upd hWF x_87 t_3 (Or.inl (by decide))
              have hRPx := rpx_upd hG hWF hRPx x_87 ha_81 (rp_code hG t_3 (by decide))
              have hi_88 := wf_inu (k := (v_41 : Int32).toNatClampNeg) (x := r_79) hi_82 (wf_free r_79).1 (wf_free r_79).2
              have hWF := wf_upd hWF h_86 x_87 (by rw [t_3]; exact ⟨_, rfl, hi_88⟩)
              have hr_46 := hr_46.ext x_87 (py_ne_arr hr_46 ha_81)
              have tq_89 := va_eq hr_46
              have hr_59 := hr_59.ext x_87 (py_ne_arr hr_59 ha_81)
              refine lv_aload_n G0.1 G0.2.1 dX2_settle_93 rfl (lv_at hl 2 rfl) ?_
              refine py_get (C := RX2) (T := TX2) (N := 12) (k := 1) (v := .ref (G.2 h 1)) G0 hw in_X2_settle_X2 rfl hr_59 (by decide) (by decide +kernel) rfl dX2_settle_94 ?_
              refine lv_iload_n G0.1 G0.2.1 dX2_settle_97 rfl (lv_at hl 1 rfl) ?_
              refine lv_iload_n G0.1 G0.2.1 dX2_settle_98 rfl (lv_at hl 0 rfl) ?_
              obtain ⟨g_90, ha_91, hi_92⟩ := wf_arr (n := 10) (lo := (-1)) (hi := 7) hWF t_2 (by omega) (wf_own1 E G _ h)
              have rg_93 : vp_in v_41 10 := ti_in (by omega) (by omega)
              refine py_iast G0 hw ha_91 rg_93 dX2_settle_99 (fun f_94 H_95 locs h_96 x_97 hw => ?_)
              have hFO := fo_now hFO (fo_arr hWF Th x_97 ha_91)
              have hKP := hKP.upd hWF x_97 t_2 (Or.inr ⟨rfl, by omega⟩)
              have hRP := rpx_level hG hWF Th hRPx x_97 ha_91 h_96 (by first | exact Or.inl (by omega) | exact hLV)
              have hi_98 := wf_inu (k := (v_41 : Int32).toNatClampNeg) (x := x_53) hi_92 (by omega) (by omega)
              have hWF := wf_upd hWF h_96 x_97 (by rw [t_2, wf_own1]; exact ⟨_, rfl, hi_98⟩)
              have hr_46 := hr_46.ext x_97 (py_ne_arr hr_46 ha_91)
              have tq_99 := va_eq hr_46
              have hr_59 := hr_59.ext x_97 (py_ne_arr hr_59 ha_91)
              obtain ⟨x_100, ex_100⟩ : ∃ y : Int32, y = v_41 + 1 := ⟨_, rfl⟩
              first | have tx_100 := ti_add ex_100 (by omega) (by omega) | skip
              refine lv_iinc (v := x_100) (lv' := [(2, .int x_100), (3, .int x_53), (0, .ref h), (1, .ref q)]) G0.1 G0.2.1 dX2_settle_100 hl (k := 1) rfl (show _ + (1 : Int32) = _ from ex_100.symm) (by decide) rfl (fun ls hl => ?_)
              refine lv_goto (tgt := 54) G0.1 G0.2.1 dX2_settle_103 (by decide) ?_
              exact ih_54 ((2147483647 - x_100.toInt).toNat) (by omega) x_100 L_j54 f_94 _ _ ls rfl ⟨by omega, by omega⟩ hWF hRP hKP hFO hw (lv_sub hl [0, 2, 3] rfl)
        exact lo_54 _ 0 L_j12 f_j12 _ _ ls rfl ⟨by omega, by omega⟩ hWF hRP hKP hFO hw (lv_sub hl [0, 1, 2] rfl)
      · skip
        have tc_40 := ti_nle c_40
        refine lv_aload_n G0.1 G0.2.1 dX2_settle_20 rfl (lv_at hl 1 rfl) ?_
        refine lv_iload_n G0.1 G0.2.1 dX2_settle_21 rfl (lv_at hl 0 rfl) ?_
        obtain ⟨r_101, y_102, v_103, hr_106, ty_104, b_105⟩ := wg_2 hWF Th
        refine py_callv hw (va_runV (As := [.int v_25]) (rest := []) G0 (c_X2_empty l E G L_j12 f_j12 H_j12.size h v_25 hG hWF Th ⟨by omega, by omega⟩) (cwV 1 G0.2.2.2.2 g_X2_settle_X2_empty_58 rfl rfl rfl (by decide +kernel) ⟨(Nat.le_of_ble_eq_true rfl), (Nat.le_of_ble_eq_true rfl)⟩) (py_preV hw (C := RX2) (T := TX2) (N := 12) rfl hr_106) rfl rfl hl.1 rfl (lv_room (Nat.le_of_ble_eq_true rfl)) dX2_settle_22 ⟨(Nat.le_of_ble_eq_true rfl), (Nat.le_of_ble_eq_true rfl)⟩) (fun L_107 f_108 H_109 locs hp_110 hw => ?_)
        obtain ⟨hWF, hq_112, kp_113⟩ := hp_110
        have hFO := fo_now hFO (hq_112 h Th).2
        have hRP := hRP.trans hq_112.toV
        have hKP := hKP.trans kp_113 (by decide) (by decide)
        have hr_38 := kp_at kp_113 hWF Tq (by decide) (by decide) (by decide) hr_38
        have tq_114 := va_eq hr_38
        have hr_106 := kp_at kp_113 hWF Th (by decide) (by decide) (by decide) hr_106
        refine lv_aload_n G0.1 G0.2.1 dX2_settle_25 rfl (lv_at hl 1 rfl) ?_
        refine py_get (C := RX2) (T := TX2) (N := 12) (k := 4) (v := .ref (G.2 h 4)) G0 hw in_X2_settle_X2 rfl hr_106 (by decide) (by decide +kernel) rfl dX2_settle_26 ?_
        refine lv_iload_n G0.1 G0.2.1 dX2_settle_29 rfl (lv_at hl 0 rfl) ?_
        refine lv_iconst (v := 0) G0.1 G0.2.1 dX2_settle_30 (by decide) ?_
        obtain ⟨g_115, ha_116, hi_117⟩ := wf_arr (n := 10) (lo := (-2147483648)) (hi := 2147483647) hWF t_5 (by decide) (fun _ => rfl)
        have rg_118 : vp_in v_25 10 := ti_in (by omega) (by omega)
        refine py_iast G0 hw ha_116 rg_118 dX2_settle_31 (fun f_119 H_120 locs h_121 x_122 hw => ?_)
        have hFO := fo_now hFO (fo_arr hWF Th x_122 ha_116)
        have hKP := hKP.upd hWF x_122 t_5 (Or.inl (by decide))
        have hRP := hRP.trans (rpv_upd hG hWF x_122 ha_116.2 h_121.2 (rp_code hG t_5 (by decide)) (by first | exact Or.inr rfl | exact Or.inl rfl))
        have hi_123 := wf_inu (k := (v_25 : Int32).toNatClampNeg) (x := 0) hi_117 (wf_free 0).1 (wf_free 0).2
        have hWF := wf_upd hWF h_121 x_122 (by rw [t_5]; exact ⟨_, rfl, hi_123⟩)
        have hr_38 := hr_38.ext x_122 (py_ne_arr hr_38 ha_116)
        have tq_124 := va_eq hr_38
        have hr_106 := hr_106.ext x_122 (py_ne_arr hr_106 ha_116)
        refine lv_aload_n G0.1 G0.2.1 dX2_settle_32 rfl (lv_at hl 1 rfl) ?_
        refine py_get (C := RX2) (T := TX2) (N := 12) (k := 5) (v := .ref (G.2 h 5)) G0 hw in_X2_settle_X2 rfl hr_106 (by decide) (by decide +kernel) rfl dX2_settle_33 ?_
        refine lv_iload_n G0.1 G0.2.1 dX2_settle_36 rfl (lv_at hl 0 rfl) ?_
        refine lv_iconst (v := 0) G0.1 G0.2.1 dX2_settle_37 (by decide) ?_
        obtain ⟨g_125, ha_126, hi_127⟩ := wf_arr (n := 10) (lo := (-2147483648)) (hi := 2147483647) hWF t_6 (by decide) (fun _ => rfl)
        have rg_128 : vp_in v_25 10 := ti_in (by omega) (by omega)
        refine py_iast G0 hw ha_126 rg_128 dX2_settle_38 (fun f_129 H_130 locs h_131 x_132 hw => ?_)
        have hFO := fo_now hFO (fo_arr hWF Th x_132 ha_126)
        have hKP := hKP.upd hWF x_132 t_6 (Or.inl (by decide))
        have hRP := hRP.trans (rpv_upd hG hWF x_132 ha_126.2 h_131.2 (rp_code hG t_6 (by decide)) (by first | exact Or.inr rfl | exact Or.inl rfl))
        have hi_133 := wf_inu (k := (v_25 : Int32).toNatClampNeg) (x := 0) hi_127 (wf_free 0).1 (wf_free 0).2
        have hWF := wf_upd hWF h_131 x_132 (by rw [t_6]; exact ⟨_, rfl, hi_133⟩)
        have hr_38 := hr_38.ext x_132 (py_ne_arr hr_38 ha_126)
        have tq_134 := va_eq hr_38
        have hr_106 := hr_106.ext x_132 (py_ne_arr hr_106 ha_126)
        refine lv_aload_n G0.1 G0.2.1 dX2_settle_39 rfl (lv_at hl 1 rfl) ?_
        refine py_get (C := RX2) (T := TX2) (N := 12) (k := 7) (v := .ref (G.2 h 7)) G0 hw in_X2_settle_X2 rfl hr_106 (by decide) (by decide +kernel) rfl dX2_settle_40 ?_
        refine lv_iload_n G0.1 G0.2.1 dX2_settle_43 rfl (lv_at hl 0 rfl) ?_
        refine lv_iconst (v := 0) G0.1 G0.2.1 dX2_settle_44 (by decide) ?_
        obtain ⟨g_135, ha_136, hi_137⟩ := wf_arr (n := 10) (lo := (-2147483648)) (hi := 2147483647) hWF t_8 (by decide) (fun _ => rfl)
        have rg_138 : vp_in v_25 10 := ti_in (by omega) (by omega)
        refine py_iast G0 hw ha_136 rg_138 dX2_settle_45 (fun f_139 H_140 locs h_141 x_142 hw => ?_)
        have hFO := fo_now hFO (fo_arr hWF Th x_142 ha_136)
        have hKP := hKP.upd hWF x_142 t_8 (Or.inl (by decide))
        have hRP := hRP.trans (rpv_upd hG hWF x_142 ha_136.2 h_141.2 (rp_code hG t_8 (by decide)) (by first | exact Or.inr rfl | exact Or.inl rfl))
        have hi_143 := wf_inu (k := (v_25 : Int32).toNatClampNeg) (x := 0) hi_137 (wf_free 0).1 (wf_free 0).2
        have hWF := wf_upd hWF h_141 x_142 (by rw [t_8]; exact ⟨_, rfl, hi_143⟩)
        have hr_38 := hr_38.ext x_142 (py_ne_arr hr_38 ha_136)
        have tq_144 := va_eq hr_38
        have hr_106 := hr_106.ext x_142 (py_ne_arr hr_106 ha_136)
        obtain ⟨x_145, ex_145⟩ : ∃ y : Int32, y = v_25 + 1 := ⟨_, rfl⟩
        first | have tx_145 := ti_add ex_145 (by omega) (by omega) | skip
        refine lv_iinc (v := x_145) (lv' := [(2, .int x_145), (0, .ref h), (1, .ref q)]) G0.1 G0.2.1 dX2_settle_46 hl (k := 0) rfl (show _ + (1 : Int32) = _ from ex_145.symm) (by decide) rfl (fun ls hl => ?_)
        refine lv_goto (tgt := 12) G0.1 G0.2.1 dX2_settle_49 (by decide) ?_
        exact ih_12 ((2147483647 - x_145.toInt).toNat) (by omega) x_145 L_107 f_139 _ _ ls rfl ⟨by omega, by omega⟩ hWF hRP hKP hFO hw (lv_sub hl [0, 1, 2] rfl)
  exact lo_12 _ 0 L f_21 _ _ ls rfl ⟨by omega, by omega⟩ hWF hRP hKP hFO hw (lv_sub hl [0, 1, 2] rfl)

def w_X2_copyFrom : List Cond := .code yX2_copyFrom cX2_copyFrom 3 none :: ([Cond.fieldLink RX2 43 "HeadYear$Folk" "valley" "LHeadYear$Valley;", Cond.fieldLink RX2 47 "HeadYear$Folk" "x" "J", Cond.fieldLink RX2 51 "HeadYear$Folk" "years" "I", Cond.fieldLink RX2 55 "HeadYear$Valley" "families" "I", Cond.fieldLink RX2 11 "HeadYear$Folk" "heads" "[I", Cond.fieldLink RX2 17 "HeadYear$Folk" "level" "[I", Cond.fieldLink RX2 20 "HeadYear$Folk" "hut" "[I", Cond.fieldLink RX2 23 "HeadYear$Folk" "debt" "[I", Cond.fieldLink RX2 26 "HeadYear$Folk" "born" "[I", Cond.fieldLink RX2 29 "HeadYear$Folk" "dead" "[I", Cond.fieldLink RX2 32 "HeadYear$Folk" "bought" "[I", Cond.fieldLink RX2 35 "HeadYear$Folk" "spent" "[I", Cond.fieldLink RX2 38 "HeadYear$Folk" "hushed" "[Z"] ++ (u_ws RX2 TX2 12 ++ (u_ws RX9 TX9 10 ++ ([]))))
theorem in_X2_copyFrom_X2 : ∀ w ∈ u_ws RX2 TX2 12, w ∈ w_X2_copyFrom := fun _ h => List.mem_cons_of_mem _ (List.mem_append_right _ (List.mem_append_left _ h))
theorem in_X2_copyFrom_X9 : ∀ w ∈ u_ws RX9 TX9 10, w ∈ w_X2_copyFrom := fun _ h => List.mem_cons_of_mem _ (List.mem_append_right _ (List.mem_append_right _ (List.mem_append_left _ h)))
set_option maxHeartbeats 4000000 in
set_option maxRecDepth 100000 in
theorem c_X2_copyFrom (l : Launch) (E : py_E) (G : wf_G) (L : List Nat) (f : py_F) (sz : Nat) (h : Nat) (q : Nat) (hG : GT G) (hWF : WF E G L f) (Th : G.1 h = 3) (Tq : G.1 q = 3) (hp0 : q ≠ h) (hq0 : RLV E G f q) : Met l yX2_copyFrom w_X2_copyFrom ({ frames := 0, cells := 0, slots := 0, locals := 0 }) (py_Pc E [.ref h, .ref q] L f sz) (py_Qv E L f sz (fun L1 f1 => (fo_v f1 h = fo_v f q ∧ fo_y f1 h = fo_y f q) ∧ WF E G L1 f1 ∧ RPv E G h f f1 ∧ KP G [3, 26, 37, 30] true f f1)) 0 0 (va_A (va_pl L f) sz) := by
  refine Met.ofW (cc := cX2_copyFrom) (maxL := 3) (ret := none) (by decide) rfl ?_
  intro p e s m args below meth c s₁ B hml hv
  obtain ⟨rfl, rfl, hw⟩ := py_start hv
  have G0 : CallFix p m c cX2_copyFrom 3 s _ w_X2_copyFrom RX2 := ⟨B.exec, B.bytes, hml, findClass_of_methodNamed B.named, atoms_spec (ws := w_X2_copyFrom) B.pre⟩
  have hr := B.returns
  have hlk := B.notSynchronized
  have kcm1 : (-1 : Int32).toInt = -1 := rfl
  have kc0 : (0 : Int32).toInt = 0 := rfl
  have kc1 : (1 : Int32).toInt = 1 := rfl
  have hl := lv_entry ([.ref h, .ref q]) (n := 3) (Nat.le_of_ble_eq_true rfl)
  rw [lg_entry_eq]
  generalize (lg_sl ([.ref h, .ref q]) ++ List.replicate (3 - (lg_sl ([.ref h, .ref q])).length) Slot.unset).toArray = ls at hl ⊢
  have hl : lv_has ls 3 [(0, .ref h), (1, .ref q)] := hl
  have hRP : RP E G f f := RP.refl
  have hKP : KP G [3, 26, 37, 30] true f f := KP.refl
  refine lv_aload_n G0.1 G0.2.1 dX2_copyFrom_0 rfl (lv_at hl 0 rfl) ?_
  refine lv_aload_n G0.1 G0.2.1 dX2_copyFrom_1 rfl (lv_at hl 1 rfl) ?_
  obtain ⟨t_1, t_2, t_3, t_4, t_5, t_6, t_7, t_8, t_9⟩ := wt_2 hG Tq
  obtain ⟨r_10, y_11, v_12, hr_15, ty_13, b_14⟩ := wg_2 hWF Tq
  have tq_16 := fo_eq hr_15
  refine py_get (C := RX2) (T := TX2) (N := 12) (k := 9) (v := .ref r_10) G0 hw in_X2_copyFrom_X2 rfl hr_15 (by decide) (by decide +kernel) rfl dX2_copyFrom_2 ?_
  obtain ⟨t_17, t_18, t_19, t_20, t_21, t_22, t_23, t_24, t_25⟩ := wt_2 hG Th
  obtain ⟨r_26, y_27, v_28, hr_31, ty_29, b_30⟩ := wg_2 hWF Th
  have tq_32 := fo_eq hr_31
  have hfo_33 := (hRP h Th).2
  have hRP : RPv E G h f f := hRP.toV
  refine py_put (C := RX2) (T := TX2) (N := 12) (k := 9) (v := .ref r_10) (fs' := [.ref (G.2 h 0), .ref (G.2 h 1), .ref (G.2 h 2), .ref (G.2 h 3), .ref (G.2 h 4), .ref (G.2 h 5), .ref (G.2 h 6), .ref (G.2 h 7), .ref (G.2 h 8), .ref r_10, .long y_27, .int v_28]) (ty0 := tyX2) G0 hw tyX2_ok nmX2 in_X2_copyFrom_X2 rfl hr_31 (by decide) (by decide +kernel) rfl rfl rfl rfl (Nat.le_of_ble_eq_true rfl) rfl dX2_copyFrom_5 (fun f_34 H_35 locs h_36 x_37 hw => ?_)
  have hKP := hKP.upd hWF x_37 Th (Or.inl (by decide))
  have hRP := hRP.trans (rpv_upd hG hWF x_37 hr_31.2 h_36.2 (rp_code hG Th (by decide)) (by first | exact Or.inr rfl | exact Or.inl rfl))
  have hWF := wf_upd hWF h_36 x_37 (by rw [Th]; exact ⟨r_10, y_27, v_28, rfl, ty_13, ⟨by omega, by omega⟩⟩)
  have tq_38 := fo_eq h_36
  refine lv_aload_n G0.1 G0.2.1 dX2_copyFrom_8 rfl (lv_at hl 0 rfl) ?_
  refine lv_aload_n G0.1 G0.2.1 dX2_copyFrom_9 rfl (lv_at hl 1 rfl) ?_
  obtain ⟨r_39, y_40, v_41, hr_44, ty_42, b_43⟩ := wg_2 hWF Tq
  have tq_45 := fo_eq hr_44
  refine py_get (C := RX2) (T := TX2) (N := 12) (k := 10) (v := .long y_40) G0 hw in_X2_copyFrom_X2 rfl hr_44 (by decide) (by decide +kernel) rfl dX2_copyFrom_10 ?_
  refine py_put (C := RX2) (T := TX2) (N := 12) (k := 10) (v := .long y_40) (fs' := [.ref (G.2 h 0), .ref (G.2 h 1), .ref (G.2 h 2), .ref (G.2 h 3), .ref (G.2 h 4), .ref (G.2 h 5), .ref (G.2 h 6), .ref (G.2 h 7), .ref (G.2 h 8), .ref r_10, .long y_40, .int v_28]) (ty0 := tyX2) G0 hw tyX2_ok nmX2 in_X2_copyFrom_X2 rfl h_36 (by decide) (by decide +kernel) rfl rfl rfl rfl (Nat.le_of_ble_eq_true rfl) rfl dX2_copyFrom_13 (fun f_46 H_47 locs h_48 x_49 hw => ?_)
  have hKP := hKP.upd hWF x_49 Th (Or.inl (by decide))
  have hRP := hRP.trans (rpv_upd hG hWF x_49 h_36.2 h_48.2 (rp_code hG Th (by decide)) (by first | exact Or.inr rfl | exact Or.inl rfl))
  have hWF := wf_upd hWF h_48 x_49 (by rw [Th]; exact ⟨r_10, y_40, v_28, rfl, ty_13, ⟨by omega, by omega⟩⟩)
  have tq_50 := fo_eq h_48
  refine lv_aload_n G0.1 G0.2.1 dX2_copyFrom_16 rfl (lv_at hl 0 rfl) ?_
  refine lv_aload_n G0.1 G0.2.1 dX2_copyFrom_17 rfl (lv_at hl 1 rfl) ?_
  have hfq := (hRP q Tq).2 hp0
  obtain ⟨r_51, y_52, v_53, hr_56, ty_54, b_55⟩ := wg_2 hWF Tq
  have tq_57 := fo_eq hr_56
  refine py_get (C := RX2) (T := TX2) (N := 12) (k := 11) (v := .int v_53) G0 hw in_X2_copyFrom_X2 rfl hr_56 (by decide) (by decide +kernel) rfl dX2_copyFrom_18 ?_
  refine py_put (C := RX2) (T := TX2) (N := 12) (k := 11) (v := .int v_53) (fs' := [.ref (G.2 h 0), .ref (G.2 h 1), .ref (G.2 h 2), .ref (G.2 h 3), .ref (G.2 h 4), .ref (G.2 h 5), .ref (G.2 h 6), .ref (G.2 h 7), .ref (G.2 h 8), .ref r_10, .long y_40, .int v_53]) (ty0 := tyX2) G0 hw tyX2_ok nmX2 in_X2_copyFrom_X2 rfl h_48 (by decide) (by decide +kernel) rfl rfl rfl rfl (Nat.le_of_ble_eq_true rfl) rfl dX2_copyFrom_21 (fun f_58 H_59 locs h_60 x_61 hw => ?_)
  have hKP := hKP.upd hWF x_61 Th (Or.inl (by decide))
  have hRP := hRP.trans (rpv_upd hG hWF x_61 h_48.2 h_60.2 (rp_code hG Th (by decide)) (by first | exact Or.inr rfl | exact Or.inl rfl))
  have hWF := wf_upd hWF h_60 x_61 (by rw [Th]; exact ⟨r_10, y_40, v_53, rfl, ty_13, ⟨by omega, by omega⟩⟩)
  have tq_62 := fo_eq h_60
  have hfq := (hRP q Tq).2 hp0
  have hfe := fo_eq h_60
  have hFO : fo_v f_58 h = fo_v f q ∧ fo_y f_58 h = fo_y f q := by constructor <;> omega
  refine lv_iconst (v := 0) G0.1 G0.2.1 dX2_copyFrom_24 (by decide) ?_
  refine lv_istore_n (lv' := [(2, .int 0), (0, .ref h), (1, .ref q)]) G0.1 G0.2.1 dX2_copyFrom_25 rfl hl (by decide) rfl (fun ls hl => ?_)
  have lo_26 : ∀ n_26 : Nat, ∀ (v_63 : Int32) (L_j26 : List Nat) (f_j26 : py_F) (H_j26 : Heap) (locs : List Loc) (ls : Array Slot), (2147483647 - v_63.toInt).toNat = n_26 → (0 ≤ v_63.toInt ∧ v_63.toInt ≤ 2147483647) → WF E G L_j26 f_j26 → RPv E G h f f_j26 → KP G [3, 26, 37, 30] true f f_j26 → fo_v f_j26 h = fo_v f q ∧ fo_y f_j26 h = fo_y f q → py_W E (va_A (va_pl L f) s.heap.size) s L_j26 f_j26 H_j26 locs → lv_has ls 3 [(2, .int v_63), (0, .ref h), (1, .ref q)] → W p l e (headSpec w_X2_copyFrom ({ frames := 0, cells := 0, slots := 0, locals := 0 })).room s m ([.ref h, .ref q] : List Value).toArray below meth c H_j26 locs 0 0 (MQ below (py_Qv E L f s.heap.size (fun L1 f1 => (fo_v f1 h = fo_v f q ∧ fo_y f1 h = fo_y f q) ∧ WF E G L1 f1 ∧ RPv E G h f f1 ∧ KP G [3, 26, 37, 30] true f f1)) ([.ref h, .ref q] : List Value).toArray s 0 0 (va_A (va_pl L f) s.heap.size)) (F0 m 26 ls []) := by
    intro n_26
    induction n_26 using Nat.strongRecOn with
    | _ n_26 ih_26 =>
      intro v_63 L_j26 f_j26 H_j26 locs ls hn_26 bv_63 hWF hRP hKP hFO hw hl
      refine lv_iload_n G0.1 G0.2.1 dX2_copyFrom_26 rfl (lv_at hl 0 rfl) ?_
      refine lv_aload_n G0.1 G0.2.1 dX2_copyFrom_27 rfl (lv_at hl 1 rfl) ?_
      obtain ⟨r_64, y_65, v_66, hr_69, ty_67, b_68⟩ := wg_2 hWF Th
      have tq_70 := fo_eq hr_69
      refine py_get (C := RX2) (T := TX2) (N := 12) (k := 9) (v := .ref r_64) G0 hw in_X2_copyFrom_X2 rfl hr_69 (by decide) (by decide +kernel) rfl dX2_copyFrom_28 ?_
      obtain ⟨t_71, t_72, t_73, t_74, t_75, t_76, t_77, t_78⟩ := wt_9 hG ty_67
      obtain ⟨v_79, v_80, hr_83, b_81, b_82⟩ := wg_9 hWF ty_67
      have tq_84 := va_eq hr_83
      refine py_get (C := RX9) (T := TX9) (N := 10) (k := 9) (v := .int v_80) G0 hw in_X2_copyFrom_X9 rfl hr_83 (by decide) (by decide +kernel) rfl dX2_copyFrom_31 ?_
      refine lv_icmp_ge (tgt := 151) G0.1 G0.2.1 dX2_copyFrom_34 (by decide) (fun c_85 => ?_) (fun c_85 => ?_)
      · skip
        have tc_85 := ti_le c_85
        exact py_vret G0 hr hlk hw ⟨(by first | omega | (intro q; omega)), hWF, hRP, hKP⟩ dX2_copyFrom_151
      · skip
        have tc_85 := ti_nle c_85
        refine lv_aload_n G0.1 G0.2.1 dX2_copyFrom_37 rfl (lv_at hl 1 rfl) ?_
        refine py_get (C := RX2) (T := TX2) (N := 12) (k := 0) (v := .ref (G.2 h 0)) G0 hw in_X2_copyFrom_X2 rfl hr_69 (by decide) (by decide +kernel) rfl dX2_copyFrom_38 ?_
        refine lv_iload_n G0.1 G0.2.1 dX2_copyFrom_41 rfl (lv_at hl 0 rfl) ?_
        have hrl := rlv_ari hG hWF Tq ((hRP q Tq).1 hq0) (i := v_63) (by omega) (by omega)
        refine lv_aload_n G0.1 G0.2.1 dX2_copyFrom_42 rfl (lv_at hl 2 rfl) ?_
        obtain ⟨r_86, y_87, v_88, hr_91, ty_89, b_90⟩ := wg_2 hWF Tq
        have tq_92 := fo_eq hr_91
        refine py_get (C := RX2) (T := TX2) (N := 12) (k := 0) (v := .ref (G.2 q 0)) G0 hw in_X2_copyFrom_X2 rfl hr_91 (by decide) (by decide +kernel) rfl dX2_copyFrom_43 ?_
        refine lv_iload_n G0.1 G0.2.1 dX2_copyFrom_46 rfl (lv_at hl 0 rfl) ?_
        obtain ⟨g_93, ha_94, hi_95⟩ := wf_arr (n := 10) (lo := 0) (hi := 20) hWF t_1 (by omega) (wf_own0 E G _ q)
        have rg_96 : vp_in v_63 10 := ti_in (by omega) (by omega)
        refine py_iald G0 hw ha_94 rg_96 dX2_copyFrom_47 ?_
        refine lv_topi (fun x_97 ex_97 => ?_)
        have bx_97 := ti_at hi_95 rg_96 ex_97
        have qx_97 := ari_ld ha_94 ex_97
        obtain ⟨g_98, ha_99, hi_100⟩ := wf_arr (n := 10) (lo := 0) (hi := 20) hWF t_17 (by omega) (wf_own0 E G _ h)
        have rg_101 : vp_in v_63 10 := ti_in (by omega) (by omega)
        refine py_iast G0 hw ha_99 rg_101 dX2_copyFrom_48 (fun f_102 H_103 locs h_104 x_105 hw => ?_)
        have hFO := fo_now hFO (fo_arr hWF Th x_105 ha_99)
        have aq_106 := ari_kp (x_105 _ (hWF _ (by rw [t_2]; omega)).1 (wf_ne t_2 t_17 (by omega))).2 v_63
        have hKP := hKP.upd hWF x_105 t_17 (Or.inr ⟨rfl, by omega⟩)
        have hRPx := rpx_heads hG hWF Th hRP x_105 ha_99 h_104
        have hh0 := h_104
        have hi_107 := wf_inu (k := (v_63 : Int32).toNatClampNeg) (x := x_97) hi_100 (by omega) (by omega)
        have hWF := wf_upd hWF h_104 x_105 (by rw [t_17, wf_own0]; exact ⟨_, rfl, hi_107⟩)
        have hr_69 := hr_69.ext x_105 (py_ne_arr hr_69 ha_99)
        have tq_108 := fo_eq hr_69
        have hr_83 := hr_83.ext x_105 (py_ne_arr hr_83 ha_99)
        have tq_109 := va_eq hr_83
        have hr_91 := hr_91.ext x_105 (py_ne_arr hr_91 ha_99)
        have tq_110 := fo_eq hr_91
        refine lv_aload_n G0.1 G0.2.1 dX2_copyFrom_49 rfl (lv_at hl 1 rfl) ?_
        refine py_get (C := RX2) (T := TX2) (N := 12) (k := 1) (v := .ref (G.2 h 1)) G0 hw in_X2_copyFrom_X2 rfl hr_69 (by decide) (by decide +kernel) rfl dX2_copyFrom_50 ?_
        refine lv_iload_n G0.1 G0.2.1 dX2_copyFrom_53 rfl (lv_at hl 0 rfl) ?_
        refine lv_aload_n G0.1 G0.2.1 dX2_copyFrom_54 rfl (lv_at hl 2 rfl) ?_
        refine py_get (C := RX2) (T := TX2) (N := 12) (k := 1) (v := .ref (G.2 q 1)) G0 hw in_X2_copyFrom_X2 rfl hr_91 (by decide) (by decide +kernel) rfl dX2_copyFrom_55 ?_
        refine lv_iload_n G0.1 G0.2.1 dX2_copyFrom_58 rfl (lv_at hl 0 rfl) ?_
        obtain ⟨g_111, ha_112, hi_113⟩ := wf_arr (n := 10) (lo := (-1)) (hi := 7) hWF t_2 (by omega) (wf_own1 E G _ q)
        have rg_114 : vp_in v_63 10 := ti_in (by omega) (by omega)
        refine py_iald G0 hw ha_112 rg_114 dX2_copyFrom_59 ?_
        refine lv_topi (fun x_115 ex_115 => ?_)
        have bx_115 := ti_at hi_113 rg_114 ex_115
        have qx_115 := ari_ld ha_112 ex_115
        have hLV : 0 ≤ x_115.toInt ∨ ∀ gh : Nat → Int32, f_102 (G.2 h 0) = .inl (E.2.1, 10, .inl gh) → (gh v_63.toNatClampNeg).toInt ≤ 0 := by
          by_cases hz : 0 < x_97.toInt
          · exact Or.inl (by omega)
          · exact Or.inr (fun gh q => by rw [in_inj (q.symm.trans hh0.2), upd_at]; omega)
        obtain ⟨g_116, ha_117, hi_118⟩ := wf_arr (n := 10) (lo := (-1)) (hi := 7) hWF t_18 (by omega) (wf_own1 E G _ h)
        have rg_119 : vp_in v_63 10 := ti_in (by omega) (by omega)
        refine py_iast G0 hw ha_117 rg_119 dX2_copyFrom_60 (fun f_120 H_121 locs h_122 x_123 hw => ?_)
        have hFO := fo_now hFO (fo_arr hWF Th x_123 ha_117)
        have hKP := hKP.upd hWF x_123 t_18 (Or.inr ⟨rfl, by omega⟩)
        have hRP := rpx_level hG hWF Th hRPx x_123 ha_117 h_122 (by first | exact Or.inl (by omega) | exact hLV)
        have hi_124 := wf_inu (k := (v_63 : Int32).toNatClampNeg) (x := x_115) hi_118 (by omega) (by omega)
        have hWF := wf_upd hWF h_122 x_123 (by rw [t_18, wf_own1]; exact ⟨_, rfl, hi_124⟩)
        have hr_69 := hr_69.ext x_123 (py_ne_arr hr_69 ha_117)
        have tq_125 := fo_eq hr_69
        have hr_83 := hr_83.ext x_123 (py_ne_arr hr_83 ha_117)
        have tq_126 := va_eq hr_83
        have hr_91 := hr_91.ext x_123 (py_ne_arr hr_91 ha_117)
        have tq_127 := fo_eq hr_91
        refine lv_aload_n G0.1 G0.2.1 dX2_copyFrom_61 rfl (lv_at hl 1 rfl) ?_
        refine py_get (C := RX2) (T := TX2) (N := 12) (k := 2) (v := .ref (G.2 h 2)) G0 hw in_X2_copyFrom_X2 rfl hr_69 (by decide) (by decide +kernel) rfl dX2_copyFrom_62 ?_
        refine lv_iload_n G0.1 G0.2.1 dX2_copyFrom_65 rfl (lv_at hl 0 rfl) ?_
        refine lv_aload_n G0.1 G0.2.1 dX2_copyFrom_66 rfl (lv_at hl 2 rfl) ?_
        refine py_get (C := RX2) (T := TX2) (N := 12) (k := 2) (v := .ref (G.2 q 2)) G0 hw in_X2_copyFrom_X2 rfl hr_91 (by decide) (by decide +kernel) rfl dX2_copyFrom_67 ?_
        refine lv_iload_n G0.1 G0.2.1 dX2_copyFrom_70 rfl (lv_at hl 0 rfl) ?_
        obtain ⟨g_128, ha_129, hi_130⟩ := wf_arr (n := 10) (lo := (-2147483648)) (hi := 2147483647) hWF t_3 (by decide) (fun _ => rfl)
        have rg_131 : vp_in v_63 10 := ti_in (by omega) (by omega)
        refine py_iald G0 hw ha_129 rg_131 dX2_copyFrom_71 ?_
        refine lv_topi (fun x_132 ex_132 => ?_)
        have bx_132 := wf_free x_132
        have qx_132 := ari_ld ha_129 ex_132
        obtain ⟨g_133, ha_134, hi_135⟩ := wf_arr (n := 10) (lo := (-2147483648)) (hi := 2147483647) hWF t_19 (by decide) (fun _ => rfl)
        have rg_136 : vp_in v_63 10 := ti_in (by omega) (by omega)
        refine py_iast G0 hw ha_134 rg_136 dX2_copyFrom_72 (fun f_137 H_138 locs h_139 x_140 hw => ?_)
        have hFO := fo_now hFO (fo_arr hWF Th x_140 ha_134)
        have aq_141 := ari_kp (x_140 _ (hWF _ (by rw [t_2]; omega)).1 (wf_ne t_2 t_19 (by omega))).2 v_63
        have hKP := hKP.upd hWF x_140 t_19 (Or.inl (by decide))
        have hRP := hRP.trans (rpv_upd hG hWF x_140 ha_134.2 h_139.2 (rp_code hG t_19 (by decide)) (by first | exact Or.inr rfl | exact Or.inl rfl))
        have hi_142 := wf_inu (k := (v_63 : Int32).toNatClampNeg) (x := x_132) hi_135 (wf_free x_132).1 (wf_free x_132).2
        have hWF := wf_upd hWF h_139 x_140 (by rw [t_19]; exact ⟨_, rfl, hi_142⟩)
        have hr_69 := hr_69.ext x_140 (py_ne_arr hr_69 ha_134)
        have tq_143 := fo_eq hr_69
        have hr_83 := hr_83.ext x_140 (py_ne_arr hr_83 ha_134)
        have tq_144 := va_eq hr_83
        have hr_91 := hr_91.ext x_140 (py_ne_arr hr_91 ha_134)
        have tq_145 := fo_eq hr_91
        refine lv_aload_n G0.1 G0.2.1 dX2_copyFrom_73 rfl (lv_at hl 1 rfl) ?_
        refine py_get (C := RX2) (T := TX2) (N := 12) (k := 3) (v := .ref (G.2 h 3)) G0 hw in_X2_copyFrom_X2 rfl hr_69 (by decide) (by decide +kernel) rfl dX2_copyFrom_74 ?_
        refine lv_iload_n G0.1 G0.2.1 dX2_copyFrom_77 rfl (lv_at hl 0 rfl) ?_
        refine lv_aload_n G0.1 G0.2.1 dX2_copyFrom_78 rfl (lv_at hl 2 rfl) ?_
        refine py_get (C := RX2) (T := TX2) (N := 12) (k := 3) (v := .ref (G.2 q 3)) G0 hw in_X2_copyFrom_X2 rfl hr_91 (by decide) (by decide +kernel) rfl dX2_copyFrom_79 ?_
        refine lv_iload_n G0.1 G0.2.1 dX2_copyFrom_82 rfl (lv_at hl 0 rfl) ?_
        obtain ⟨g_146, ha_147, hi_148⟩ := wf_arr (n := 10) (lo := (-2147483648)) (hi := 2147483647) hWF t_4 (by decide) (fun _ => rfl)
        have rg_149 : vp_in v_63 10 := ti_in (by omega) (by omega)
        refine py_iald G0 hw ha_147 rg_149 dX2_copyFrom_83 ?_
        refine lv_topi (fun x_150 ex_150 => ?_)
        have bx_150 := wf_free x_150
        have qx_150 := ari_ld ha_147 ex_150
        obtain ⟨g_151, ha_152, hi_153⟩ := wf_arr (n := 10) (lo := (-2147483648)) (hi := 2147483647) hWF t_20 (by decide) (fun _ => rfl)
        have rg_154 : vp_in v_63 10 := ti_in (by omega) (by omega)
        refine py_iast G0 hw ha_152 rg_154 dX2_copyFrom_84 (fun f_155 H_156 locs h_157 x_158 hw => ?_)
        have hFO := fo_now hFO (fo_arr hWF Th x_158 ha_152)
        have aq_159 := ari_kp (x_158 _ (hWF _ (by rw [t_2]; omega)).1 (wf_ne t_2 t_20 (by omega))).2 v_63
        have hKP := hKP.upd hWF x_158 t_20 (Or.inl (by decide))
        have hRP := hRP.trans (rpv_upd hG hWF x_158 ha_152.2 h_157.2 (rp_code hG t_20 (by decide)) (by first | exact Or.inr rfl | exact Or.inl rfl))
        have hi_160 := wf_inu (k := (v_63 : Int32).toNatClampNeg) (x := x_150) hi_153 (wf_free x_150).1 (wf_free x_150).2
        have hWF := wf_upd hWF h_157 x_158 (by rw [t_20]; exact ⟨_, rfl, hi_160⟩)
        have hr_69 := hr_69.ext x_158 (py_ne_arr hr_69 ha_152)
        have tq_161 := fo_eq hr_69
        have hr_83 := hr_83.ext x_158 (py_ne_arr hr_83 ha_152)
        have tq_162 := va_eq hr_83
        have hr_91 := hr_91.ext x_158 (py_ne_arr hr_91 ha_152)
        have tq_163 := fo_eq hr_91
        have h_139 := h_139.ext x_158 (wf_ne t_19 t_20 (by decide))
        refine lv_aload_n G0.1 G0.2.1 dX2_copyFrom_85 rfl (lv_at hl 1 rfl) ?_
        refine py_get (C := RX2) (T := TX2) (N := 12) (k := 4) (v := .ref (G.2 h 4)) G0 hw in_X2_copyFrom_X2 rfl hr_69 (by decide) (by decide +kernel) rfl dX2_copyFrom_86 ?_
        refine lv_iload_n G0.1 G0.2.1 dX2_copyFrom_89 rfl (lv_at hl 0 rfl) ?_
        refine lv_aload_n G0.1 G0.2.1 dX2_copyFrom_90 rfl (lv_at hl 2 rfl) ?_
        refine py_get (C := RX2) (T := TX2) (N := 12) (k := 4) (v := .ref (G.2 q 4)) G0 hw in_X2_copyFrom_X2 rfl hr_91 (by decide) (by decide +kernel) rfl dX2_copyFrom_91 ?_
        refine lv_iload_n G0.1 G0.2.1 dX2_copyFrom_94 rfl (lv_at hl 0 rfl) ?_
        obtain ⟨g_164, ha_165, hi_166⟩ := wf_arr (n := 10) (lo := (-2147483648)) (hi := 2147483647) hWF t_5 (by decide) (fun _ => rfl)
        have rg_167 : vp_in v_63 10 := ti_in (by omega) (by omega)
        refine py_iald G0 hw ha_165 rg_167 dX2_copyFrom_95 ?_
        refine lv_topi (fun x_168 ex_168 => ?_)
        have bx_168 := wf_free x_168
        have qx_168 := ari_ld ha_165 ex_168
        obtain ⟨g_169, ha_170, hi_171⟩ := wf_arr (n := 10) (lo := (-2147483648)) (hi := 2147483647) hWF t_21 (by decide) (fun _ => rfl)
        have rg_172 : vp_in v_63 10 := ti_in (by omega) (by omega)
        refine py_iast G0 hw ha_170 rg_172 dX2_copyFrom_96 (fun f_173 H_174 locs h_175 x_176 hw => ?_)
        have hFO := fo_now hFO (fo_arr hWF Th x_176 ha_170)
        have aq_177 := ari_kp (x_176 _ (hWF _ (by rw [t_2]; omega)).1 (wf_ne t_2 t_21 (by omega))).2 v_63
        have hKP := hKP.upd hWF x_176 t_21 (Or.inl (by decide))
        have hRP := hRP.trans (rpv_upd hG hWF x_176 ha_170.2 h_175.2 (rp_code hG t_21 (by decide)) (by first | exact Or.inr rfl | exact Or.inl rfl))
        have hi_178 := wf_inu (k := (v_63 : Int32).toNatClampNeg) (x := x_168) hi_171 (wf_free x_168).1 (wf_free x_168).2
        have hWF := wf_upd hWF h_175 x_176 (by rw [t_21]; exact ⟨_, rfl, hi_178⟩)
        have hr_69 := hr_69.ext x_176 (py_ne_arr hr_69 ha_170)
        have tq_179 := fo_eq hr_69
        have hr_83 := hr_83.ext x_176 (py_ne_arr hr_83 ha_170)
        have tq_180 := va_eq hr_83
        have hr_91 := hr_91.ext x_176 (py_ne_arr hr_91 ha_170)
        have tq_181 := fo_eq hr_91
        have h_157 := h_157.ext x_176 (wf_ne t_20 t_21 (by decide))
        refine lv_aload_n G0.1 G0.2.1 dX2_copyFrom_97 rfl (lv_at hl 1 rfl) ?_
        refine py_get (C := RX2) (T := TX2) (N := 12) (k := 5) (v := .ref (G.2 h 5)) G0 hw in_X2_copyFrom_X2 rfl hr_69 (by decide) (by decide +kernel) rfl dX2_copyFrom_98 ?_
        refine lv_iload_n G0.1 G0.2.1 dX2_copyFrom_101 rfl (lv_at hl 0 rfl) ?_
        refine lv_aload_n G0.1 G0.2.1 dX2_copyFrom_102 rfl (lv_at hl 2 rfl) ?_
        refine py_get (C := RX2) (T := TX2) (N := 12) (k := 5) (v := .ref (G.2 q 5)) G0 hw in_X2_copyFrom_X2 rfl hr_91 (by decide) (by decide +kernel) rfl dX2_copyFrom_103 ?_
        refine lv_iload_n G0.1 G0.2.1 dX2_copyFrom_106 rfl (lv_at hl 0 rfl) ?_
        obtain ⟨g_182, ha_183, hi_184⟩ := wf_arr (n := 10) (lo := (-2147483648)) (hi := 2147483647) hWF t_6 (by decide) (fun _ => rfl)
        have rg_185 : vp_in v_63 10 := ti_in (by omega) (by omega)
        refine py_iald G0 hw ha_183 rg_185 dX2_copyFrom_107 ?_
        refine lv_topi (fun x_186 ex_186 => ?_)
        have bx_186 := wf_free x_186
        have qx_186 := ari_ld ha_183 ex_186
        obtain ⟨g_187, ha_188, hi_189⟩ := wf_arr (n := 10) (lo := (-2147483648)) (hi := 2147483647) hWF t_22 (by decide) (fun _ => rfl)
        have rg_190 : vp_in v_63 10 := ti_in (by omega) (by omega)
        refine py_iast G0 hw ha_188 rg_190 dX2_copyFrom_108 (fun f_191 H_192 locs h_193 x_194 hw => ?_)
        have hFO := fo_now hFO (fo_arr hWF Th x_194 ha_188)
        have aq_195 := ari_kp (x_194 _ (hWF _ (by rw [t_2]; omega)).1 (wf_ne t_2 t_22 (by omega))).2 v_63
        have hKP := hKP.upd hWF x_194 t_22 (Or.inl (by decide))
        have hRP := hRP.trans (rpv_upd hG hWF x_194 ha_188.2 h_193.2 (rp_code hG t_22 (by decide)) (by first | exact Or.inr rfl | exact Or.inl rfl))
        have hi_196 := wf_inu (k := (v_63 : Int32).toNatClampNeg) (x := x_186) hi_189 (wf_free x_186).1 (wf_free x_186).2
        have hWF := wf_upd hWF h_193 x_194 (by rw [t_22]; exact ⟨_, rfl, hi_196⟩)
        have hr_69 := hr_69.ext x_194 (py_ne_arr hr_69 ha_188)
        have tq_197 := fo_eq hr_69
        have hr_83 := hr_83.ext x_194 (py_ne_arr hr_83 ha_188)
        have tq_198 := va_eq hr_83
        have hr_91 := hr_91.ext x_194 (py_ne_arr hr_91 ha_188)
        have tq_199 := fo_eq hr_91
        have h_157 := h_157.ext x_194 (wf_ne t_20 t_22 (by decide))
        refine lv_aload_n G0.1 G0.2.1 dX2_copyFrom_109 rfl (lv_at hl 1 rfl) ?_
        refine py_get (C := RX2) (T := TX2) (N := 12) (k := 6) (v := .ref (G.2 h 6)) G0 hw in_X2_copyFrom_X2 rfl hr_69 (by decide) (by decide +kernel) rfl dX2_copyFrom_110 ?_
        refine lv_iload_n G0.1 G0.2.1 dX2_copyFrom_113 rfl (lv_at hl 0 rfl) ?_
        refine lv_aload_n G0.1 G0.2.1 dX2_copyFrom_114 rfl (lv_at hl 2 rfl) ?_
        refine py_get (C := RX2) (T := TX2) (N := 12) (k := 6) (v := .ref (G.2 q 6)) G0 hw in_X2_copyFrom_X2 rfl hr_91 (by decide) (by decide +kernel) rfl dX2_copyFrom_115 ?_
        refine lv_iload_n G0.1 G0.2.1 dX2_copyFrom_118 rfl (lv_at hl 0 rfl) ?_
        obtain ⟨g_200, ha_201, hi_202⟩ := wf_arr (n := 10) (lo := (-2147483648)) (hi := 2147483647) hWF t_7 (by decide) (fun _ => rfl)
        have rg_203 : vp_in v_63 10 := ti_in (by omega) (by omega)
        refine py_iald G0 hw ha_201 rg_203 dX2_copyFrom_119 ?_
        refine lv_topi (fun x_204 ex_204 => ?_)
        have bx_204 := wf_free x_204
        have qx_204 := ari_ld ha_201 ex_204
        obtain ⟨g_205, ha_206, hi_207⟩ := wf_arr (n := 10) (lo := (-2147483648)) (hi := 2147483647) hWF t_23 (by decide) (fun _ => rfl)
        have rg_208 : vp_in v_63 10 := ti_in (by omega) (by omega)
        refine py_iast G0 hw ha_206 rg_208 dX2_copyFrom_120 (fun f_209 H_210 locs h_211 x_212 hw => ?_)
        have hFO := fo_now hFO (fo_arr hWF Th x_212 ha_206)
        have aq_213 := ari_kp (x_212 _ (hWF _ (by rw [t_2]; omega)).1 (wf_ne t_2 t_23 (by omega))).2 v_63
        have hKP := hKP.upd hWF x_212 t_23 (Or.inl (by decide))
        have hRP := hRP.trans (rpv_upd hG hWF x_212 ha_206.2 h_211.2 (rp_code hG t_23 (by decide)) (by first | exact Or.inr rfl | exact Or.inl rfl))
        have hi_214 := wf_inu (k := (v_63 : Int32).toNatClampNeg) (x := x_204) hi_207 (wf_free x_204).1 (wf_free x_204).2
        have hWF := wf_upd hWF h_211 x_212 (by rw [t_23]; exact ⟨_, rfl, hi_214⟩)
        have hr_69 := hr_69.ext x_212 (py_ne_arr hr_69 ha_206)
        have tq_215 := fo_eq hr_69
        have hr_83 := hr_83.ext x_212 (py_ne_arr hr_83 ha_206)
        have tq_216 := va_eq hr_83
        have hr_91 := hr_91.ext x_212 (py_ne_arr hr_91 ha_206)
        have tq_217 := fo_eq hr_91
        have h_157 := h_157.ext x_212 (wf_ne t_20 t_23 (by decide))
        refine lv_aload_n G0.1 G0.2.1 dX2_copyFrom_121 rfl (lv_at hl 1 rfl) ?_
        refine py_get (C := RX2) (T := TX2) (N := 12) (k := 7) (v := .ref (G.2 h 7)) G0 hw in_X2_copyFrom_X2 rfl hr_69 (by decide) (by decide +kernel) rfl dX2_copyFrom_122 ?_
        refine lv_iload_n G0.1 G0.2.1 dX2_copyFrom_125 rfl (lv_at hl 0 rfl) ?_
        refine lv_aload_n G0.1 G0.2.1 dX2_copyFrom_126 rfl (lv_at hl 2 rfl) ?_
        refine py_get (C := RX2) (T := TX2) (N := 12) (k := 7) (v := .ref (G.2 q 7)) G0 hw in_X2_copyFrom_X2 rfl hr_91 (by decide) (by decide +kernel) rfl dX2_copyFrom_127 ?_
        refine lv_iload_n G0.1 G0.2.1 dX2_copyFrom_130 rfl (lv_at hl 0 rfl) ?_
        obtain ⟨g_218, ha_219, hi_220⟩ := wf_arr (n := 10) (lo := (-2147483648)) (hi := 2147483647) hWF t_8 (by decide) (fun _ => rfl)
        have rg_221 : vp_in v_63 10 := ti_in (by omega) (by omega)
        refine py_iald G0 hw ha_219 rg_221 dX2_copyFrom_131 ?_
        refine lv_topi (fun x_222 ex_222 => ?_)
        have bx_222 := wf_free x_222
        have qx_222 := ari_ld ha_219 ex_222
        obtain ⟨g_223, ha_224, hi_225⟩ := wf_arr (n := 10) (lo := (-2147483648)) (hi := 2147483647) hWF t_24 (by decide) (fun _ => rfl)
        have rg_226 : vp_in v_63 10 := ti_in (by omega) (by omega)
        refine py_iast G0 hw ha_224 rg_226 dX2_copyFrom_132 (fun f_227 H_228 locs h_229 x_230 hw => ?_)
        have hFO := fo_now hFO (fo_arr hWF Th x_230 ha_224)
        have aq_231 := ari_kp (x_230 _ (hWF _ (by rw [t_2]; omega)).1 (wf_ne t_2 t_24 (by omega))).2 v_63
        have hKP := hKP.upd hWF x_230 t_24 (Or.inl (by decide))
        have hRP := hRP.trans (rpv_upd hG hWF x_230 ha_224.2 h_229.2 (rp_code hG t_24 (by decide)) (by first | exact Or.inr rfl | exact Or.inl rfl))
        have hi_232 := wf_inu (k := (v_63 : Int32).toNatClampNeg) (x := x_222) hi_225 (wf_free x_222).1 (wf_free x_222).2
        have hWF := wf_upd hWF h_229 x_230 (by rw [t_24]; exact ⟨_, rfl, hi_232⟩)
        have hr_69 := hr_69.ext x_230 (py_ne_arr hr_69 ha_224)
        have tq_233 := fo_eq hr_69
        have hr_83 := hr_83.ext x_230 (py_ne_arr hr_83 ha_224)
        have tq_234 := va_eq hr_83
        have hr_91 := hr_91.ext x_230 (py_ne_arr hr_91 ha_224)
        have tq_235 := fo_eq hr_91
        have h_157 := h_157.ext x_230 (wf_ne t_20 t_24 (by decide))
        refine lv_aload_n G0.1 G0.2.1 dX2_copyFrom_133 rfl (lv_at hl 1 rfl) ?_
        refine py_get (C := RX2) (T := TX2) (N := 12) (k := 8) (v := .ref (G.2 h 8)) G0 hw in_X2_copyFrom_X2 rfl hr_69 (by decide) (by decide +kernel) rfl dX2_copyFrom_134 ?_
        refine lv_iload_n G0.1 G0.2.1 dX2_copyFrom_137 rfl (lv_at hl 0 rfl) ?_
        refine lv_aload_n G0.1 G0.2.1 dX2_copyFrom_138 rfl (lv_at hl 2 rfl) ?_
        refine py_get (C := RX2) (T := TX2) (N := 12) (k := 8) (v := .ref (G.2 q 8)) G0 hw in_X2_copyFrom_X2 rfl hr_91 (by decide) (by decide +kernel) rfl dX2_copyFrom_139 ?_
        refine lv_iload_n G0.1 G0.2.1 dX2_copyFrom_142 rfl (lv_at hl 0 rfl) ?_
        obtain ⟨g_236, ha_237⟩ := wf_z30 hWF t_9
        have rg_238 : vp_in v_63 10 := ti_in (by omega) (by omega)
        refine py_zald G0 hw ha_237 rg_238 dX2_copyFrom_143 ?_
        refine lv_topi (fun x_239 ex_239 => ?_)
        obtain ⟨g_240, ha_241⟩ := wf_z30 hWF t_25
        have rg_242 : vp_in v_63 10 := ti_in (by omega) (by omega)
        refine py_zast G0 hw ha_241 rg_242 dX2_copyFrom_144 (fun f_243 H_244 locs h_245 x_246 hw => ?_)
        have hFO := fo_now hFO (fo_arr hWF Th x_246 ha_241)
        have aq_247 := ari_kp (x_246 _ (hWF _ (by rw [t_2]; omega)).1 (wf_ne t_2 t_25 (by omega))).2 v_63
        have hKP := hKP.upd hWF x_246 t_25 (Or.inl (by decide))
        have hRP := hRP.trans (rpv_upd hG hWF x_246 ha_241.2 h_245.2 (rp_code hG t_25 (by decide)) (by first | exact Or.inr rfl | exact Or.inl rfl))
        have hWF := wf_upd hWF h_245 x_246 (by rw [t_25]; exact ⟨_, rfl⟩)
        have hr_69 := hr_69.ext x_246 (py_ne_arr hr_69 ha_241)
        have tq_248 := fo_eq hr_69
        have hr_83 := hr_83.ext x_246 (py_ne_arr hr_83 ha_241)
        have tq_249 := va_eq hr_83
        have hr_91 := hr_91.ext x_246 (py_ne_arr hr_91 ha_241)
        have tq_250 := fo_eq hr_91
        obtain ⟨x_251, ex_251⟩ : ∃ y : Int32, y = v_63 + 1 := ⟨_, rfl⟩
        first | have tx_251 := ti_add ex_251 (by omega) (by omega) | skip
        refine lv_iinc (v := x_251) (lv' := [(2, .int x_251), (0, .ref h), (1, .ref q)]) G0.1 G0.2.1 dX2_copyFrom_145 hl (k := 0) rfl (show _ + (1 : Int32) = _ from ex_251.symm) (by decide) rfl (fun ls hl => ?_)
        refine lv_goto (tgt := 26) G0.1 G0.2.1 dX2_copyFrom_148 (by decide) ?_
        exact ih_26 ((2147483647 - x_251.toInt).toNat) (by omega) x_251 L_j26 f_243 _ _ ls rfl ⟨by omega, by omega⟩ hWF hRP hKP hFO hw (lv_sub hl [0, 1, 2] rfl)
  exact lo_26 _ 0 L f_58 _ _ ls rfl ⟨by omega, by omega⟩ hWF hRP hKP hFO hw (lv_sub hl [0, 1, 2] rfl)
