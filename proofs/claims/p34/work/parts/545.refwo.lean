theorem dX12_workOut_0 : decode cX12_workOut 0 = .ok (.iconst 0, 1) := by decide +kernel
theorem dX12_workOut_1 : decode cX12_workOut 1 = .ok (.istore 4, 2) := by decide +kernel
theorem dX12_workOut_3 : decode cX12_workOut 3 = .ok (.sipush 340, 3) := by decide +kernel
theorem dX12_workOut_6 : decode cX12_workOut 6 = .ok (.iload_n 1, 1) := by decide +kernel
theorem dX12_workOut_7 : decode cX12_workOut 7 = .ok (.imul, 1) := by decide +kernel
theorem dX12_workOut_8 : decode cX12_workOut 8 = .ok (.iload_n 2, 1) := by decide +kernel
theorem dX12_workOut_9 : decode cX12_workOut 9 = .ok (.iadd, 1) := by decide +kernel
theorem dX12_workOut_10 : decode cX12_workOut 10 = .ok (.istore 5, 2) := by decide +kernel
theorem dX12_workOut_12 : decode cX12_workOut 12 = .ok (.iload 5, 2) := by decide +kernel
theorem dX12_workOut_14 : decode cX12_workOut 14 = .ok (.sipush 340, 3) := by decide +kernel
theorem dX12_workOut_17 : decode cX12_workOut 17 = .ok (.iload_n 1, 1) := by decide +kernel
theorem dX12_workOut_18 : decode cX12_workOut 18 = .ok (.imul, 1) := by decide +kernel
theorem dX12_workOut_19 : decode cX12_workOut 19 = .ok (.iload_n 3, 1) := by decide +kernel
theorem dX12_workOut_20 : decode cX12_workOut 20 = .ok (.iadd, 1) := by decide +kernel
theorem dX12_workOut_21 : decode cX12_workOut 21 = .ok (.if_icmp .ge 150, 3) := by decide +kernel
theorem dX12_workOut_24 : decode cX12_workOut 24 = .ok (.aload_n 0, 1) := by decide +kernel
theorem dX12_workOut_25 : decode cX12_workOut 25 = .ok (.getfield 13, 3) := by decide +kernel
theorem dX12_workOut_28 : decode cX12_workOut 28 = .ok (.iload 5, 2) := by decide +kernel
theorem dX12_workOut_30 : decode cX12_workOut 30 = .ok (.iaload, 1) := by decide +kernel
theorem dX12_workOut_31 : decode cX12_workOut 31 = .ok (.ifCond .eq 14, 3) := by decide +kernel
theorem dX12_workOut_34 : decode cX12_workOut 34 = .ok (.aload_n 0, 1) := by decide +kernel
theorem dX12_workOut_35 : decode cX12_workOut 35 = .ok (.getfield 13, 3) := by decide +kernel
theorem dX12_workOut_38 : decode cX12_workOut 38 = .ok (.iload 5, 2) := by decide +kernel
theorem dX12_workOut_40 : decode cX12_workOut 40 = .ok (.iaload, 1) := by decide +kernel
theorem dX12_workOut_41 : decode cX12_workOut 41 = .ok (.iconst 1, 1) := by decide +kernel
theorem dX12_workOut_42 : decode cX12_workOut 42 = .ok (.if_icmp .ne 48, 3) := by decide +kernel
theorem dX12_workOut_45 : decode cX12_workOut 45 = .ok (.aload_n 0, 1) := by decide +kernel
theorem dX12_workOut_46 : decode cX12_workOut 46 = .ok (.getfield 37, 3) := by decide +kernel
theorem dX12_workOut_49 : decode cX12_workOut 49 = .ok (.iload 4, 2) := by decide +kernel
theorem dX12_workOut_51 : decode cX12_workOut 51 = .ok (.aload_n 0, 1) := by decide +kernel
theorem dX12_workOut_52 : decode cX12_workOut 52 = .ok (.getfield 13, 3) := by decide +kernel
theorem dX12_workOut_55 : decode cX12_workOut 55 = .ok (.iload 5, 2) := by decide +kernel
theorem dX12_workOut_57 : decode cX12_workOut 57 = .ok (.iaload, 1) := by decide +kernel
theorem dX12_workOut_58 : decode cX12_workOut 58 = .ok (.ifCond .ne 13, 3) := by decide +kernel
theorem dX12_workOut_61 : decode cX12_workOut 61 = .ok (.aload_n 0, 1) := by decide +kernel
theorem dX12_workOut_62 : decode cX12_workOut 62 = .ok (.getfield 16, 3) := by decide +kernel
theorem dX12_workOut_65 : decode cX12_workOut 65 = .ok (.iload 5, 2) := by decide +kernel
theorem dX12_workOut_67 : decode cX12_workOut 67 = .ok (.iaload, 1) := by decide +kernel
theorem dX12_workOut_68 : decode cX12_workOut 68 = .ok (.goto 15, 3) := by decide +kernel
theorem dX12_workOut_71 : decode cX12_workOut 71 = .ok (.aload_n 0, 1) := by decide +kernel
theorem dX12_workOut_72 : decode cX12_workOut 72 = .ok (.getfield 34, 3) := by decide +kernel
theorem dX12_workOut_75 : decode cX12_workOut 75 = .ok (.aload_n 0, 1) := by decide +kernel
theorem dX12_workOut_76 : decode cX12_workOut 76 = .ok (.getfield 16, 3) := by decide +kernel
theorem dX12_workOut_79 : decode cX12_workOut 79 = .ok (.iload 5, 2) := by decide +kernel
theorem dX12_workOut_81 : decode cX12_workOut 81 = .ok (.iaload, 1) := by decide +kernel
theorem dX12_workOut_82 : decode cX12_workOut 82 = .ok (.iaload, 1) := by decide +kernel
theorem dX12_workOut_83 : decode cX12_workOut 83 = .ok (.iastore, 1) := by decide +kernel
theorem dX12_workOut_84 : decode cX12_workOut 84 = .ok (.iinc 4 1, 3) := by decide +kernel
theorem dX12_workOut_87 : decode cX12_workOut 87 = .ok (.goto 78, 3) := by decide +kernel
theorem dX12_workOut_90 : decode cX12_workOut 90 = .ok (.aload_n 0, 1) := by decide +kernel
theorem dX12_workOut_91 : decode cX12_workOut 91 = .ok (.getfield 13, 3) := by decide +kernel
theorem dX12_workOut_94 : decode cX12_workOut 94 = .ok (.iload 5, 2) := by decide +kernel
theorem dX12_workOut_96 : decode cX12_workOut 96 = .ok (.iaload, 1) := by decide +kernel
theorem dX12_workOut_97 : decode cX12_workOut 97 = .ok (.bipush 9, 2) := by decide +kernel
theorem dX12_workOut_99 : decode cX12_workOut 99 = .ok (.if_icmp .ne 26, 3) := by decide +kernel
theorem dX12_workOut_102 : decode cX12_workOut 102 = .ok (.aload_n 0, 1) := by decide +kernel
theorem dX12_workOut_103 : decode cX12_workOut 103 = .ok (.getfield 37, 3) := by decide +kernel
theorem dX12_workOut_106 : decode cX12_workOut 106 = .ok (.iload 4, 2) := by decide +kernel
theorem dX12_workOut_108 : decode cX12_workOut 108 = .ok (.iconst 1, 1) := by decide +kernel
theorem dX12_workOut_109 : decode cX12_workOut 109 = .ok (.isub, 1) := by decide +kernel
theorem dX12_workOut_110 : decode cX12_workOut 110 = .ok (.iconst 1, 1) := by decide +kernel
theorem dX12_workOut_111 : decode cX12_workOut 111 = .ok (.aload_n 0, 1) := by decide +kernel
theorem dX12_workOut_112 : decode cX12_workOut 112 = .ok (.getfield 37, 3) := by decide +kernel
theorem dX12_workOut_115 : decode cX12_workOut 115 = .ok (.iload 4, 2) := by decide +kernel
theorem dX12_workOut_117 : decode cX12_workOut 117 = .ok (.iconst 1, 1) := by decide +kernel
theorem dX12_workOut_118 : decode cX12_workOut 118 = .ok (.isub, 1) := by decide +kernel
theorem dX12_workOut_119 : decode cX12_workOut 119 = .ok (.iaload, 1) := by decide +kernel
theorem dX12_workOut_120 : decode cX12_workOut 120 = .ok (.isub, 1) := by decide +kernel
theorem dX12_workOut_121 : decode cX12_workOut 121 = .ok (.iastore, 1) := by decide +kernel
theorem dX12_workOut_122 : decode cX12_workOut 122 = .ok (.goto 43, 3) := by decide +kernel
theorem dX12_workOut_125 : decode cX12_workOut 125 = .ok (.iinc 4 (-1), 3) := by decide +kernel
theorem dX12_workOut_128 : decode cX12_workOut 128 = .ok (.aload_n 0, 1) := by decide +kernel
theorem dX12_workOut_129 : decode cX12_workOut 129 = .ok (.getfield 37, 3) := by decide +kernel
theorem dX12_workOut_132 : decode cX12_workOut 132 = .ok (.iload 4, 2) := by decide +kernel
theorem dX12_workOut_134 : decode cX12_workOut 134 = .ok (.iconst 1, 1) := by decide +kernel
theorem dX12_workOut_135 : decode cX12_workOut 135 = .ok (.isub, 1) := by decide +kernel
theorem dX12_workOut_136 : decode cX12_workOut 136 = .ok (.aload_n 0, 1) := by decide +kernel
theorem dX12_workOut_137 : decode cX12_workOut 137 = .ok (.getfield 13, 3) := by decide +kernel
theorem dX12_workOut_140 : decode cX12_workOut 140 = .ok (.iload 5, 2) := by decide +kernel
theorem dX12_workOut_142 : decode cX12_workOut 142 = .ok (.iaload, 1) := by decide +kernel
theorem dX12_workOut_143 : decode cX12_workOut 143 = .ok (.aload_n 0, 1) := by decide +kernel
theorem dX12_workOut_144 : decode cX12_workOut 144 = .ok (.getfield 37, 3) := by decide +kernel
theorem dX12_workOut_147 : decode cX12_workOut 147 = .ok (.iload 4, 2) := by decide +kernel
theorem dX12_workOut_149 : decode cX12_workOut 149 = .ok (.iconst 1, 1) := by decide +kernel
theorem dX12_workOut_150 : decode cX12_workOut 150 = .ok (.isub, 1) := by decide +kernel
theorem dX12_workOut_151 : decode cX12_workOut 151 = .ok (.iaload, 1) := by decide +kernel
theorem dX12_workOut_152 : decode cX12_workOut 152 = .ok (.i2l, 1) := by decide +kernel
theorem dX12_workOut_153 : decode cX12_workOut 153 = .ok (.aload_n 0, 1) := by decide +kernel
theorem dX12_workOut_154 : decode cX12_workOut 154 = .ok (.getfield 37, 3) := by decide +kernel
theorem dX12_workOut_157 : decode cX12_workOut 157 = .ok (.iload 4, 2) := by decide +kernel
theorem dX12_workOut_159 : decode cX12_workOut 159 = .ok (.iaload, 1) := by decide +kernel
theorem dX12_workOut_160 : decode cX12_workOut 160 = .ok (.i2l, 1) := by decide +kernel
theorem dX12_workOut_161 : decode cX12_workOut 161 = .ok (.invokestatic 224, 3) := by decide +kernel
theorem dX12_workOut_164 : decode cX12_workOut 164 = .ok (.iastore, 1) := by decide +kernel
theorem dX12_workOut_165 : decode cX12_workOut 165 = .ok (.iinc 5 1, 3) := by decide +kernel
theorem dX12_workOut_168 : decode cX12_workOut 168 = .ok (.goto (-156), 3) := by decide +kernel
theorem dX12_workOut_171 : decode cX12_workOut 171 = .ok (.aload_n 0, 1) := by decide +kernel
theorem dX12_workOut_172 : decode cX12_workOut 172 = .ok (.getfield 37, 3) := by decide +kernel
theorem dX12_workOut_175 : decode cX12_workOut 175 = .ok (.iconst 0, 1) := by decide +kernel
theorem dX12_workOut_176 : decode cX12_workOut 176 = .ok (.iaload, 1) := by decide +kernel
theorem dX12_workOut_177 : decode cX12_workOut 177 = .ok (.ireturn, 1) := by decide +kernel
theorem dX12_worthBy_0 : decode cX12_worthBy 0 = .ok (.iload_n 1, 1) := by decide +kernel
theorem dX12_worthBy_1 : decode cX12_worthBy 1 = .ok (.iconst (-1), 1) := by decide +kernel
theorem dX12_worthBy_2 : decode cX12_worthBy 2 = .ok (.if_icmp .ne 17, 3) := by decide +kernel
theorem dX12_worthBy_5 : decode cX12_worthBy 5 = .ok (.bipush (-9), 2) := by decide +kernel
theorem dX12_worthBy_7 : decode cX12_worthBy 7 = .ok (.bipush 9, 2) := by decide +kernel
theorem dX12_worthBy_9 : decode cX12_worthBy 9 = .ok (.iload_n 2, 1) := by decide +kernel
theorem dX12_worthBy_10 : decode cX12_worthBy 10 = .ok (.iload_n 3, 1) := by decide +kernel
theorem dX12_worthBy_11 : decode cX12_worthBy 11 = .ok (.isub, 1) := by decide +kernel
theorem dX12_worthBy_12 : decode cX12_worthBy 12 = .ok (.invokestatic 339, 3) := by decide +kernel
theorem dX12_worthBy_15 : decode cX12_worthBy 15 = .ok (.invokestatic 328, 3) := by decide +kernel
theorem dX12_worthBy_18 : decode cX12_worthBy 18 = .ok (.ireturn, 1) := by decide +kernel
theorem dX12_worthBy_19 : decode cX12_worthBy 19 = .ok (.aload_n 0, 1) := by decide +kernel
theorem dX12_worthBy_20 : decode cX12_worthBy 20 = .ok (.getfield 34, 3) := by decide +kernel
theorem dX12_worthBy_23 : decode cX12_worthBy 23 = .ok (.iconst 0, 1) := by decide +kernel
theorem dX12_worthBy_24 : decode cX12_worthBy 24 = .ok (.iload_n 2, 1) := by decide +kernel
theorem dX12_worthBy_25 : decode cX12_worthBy 25 = .ok (.iastore, 1) := by decide +kernel
theorem dX12_worthBy_26 : decode cX12_worthBy 26 = .ok (.aload_n 0, 1) := by decide +kernel
theorem dX12_worthBy_27 : decode cX12_worthBy 27 = .ok (.getfield 34, 3) := by decide +kernel
theorem dX12_worthBy_30 : decode cX12_worthBy 30 = .ok (.iconst 1, 1) := by decide +kernel
theorem dX12_worthBy_31 : decode cX12_worthBy 31 = .ok (.iload_n 3, 1) := by decide +kernel
theorem dX12_worthBy_32 : decode cX12_worthBy 32 = .ok (.iastore, 1) := by decide +kernel
theorem dX12_worthBy_33 : decode cX12_worthBy 33 = .ok (.aload_n 0, 1) := by decide +kernel
theorem dX12_worthBy_34 : decode cX12_worthBy 34 = .ok (.getfield 34, 3) := by decide +kernel
theorem dX12_worthBy_37 : decode cX12_worthBy 37 = .ok (.iconst 2, 1) := by decide +kernel
theorem dX12_worthBy_38 : decode cX12_worthBy 38 = .ok (.iload 4, 2) := by decide +kernel
theorem dX12_worthBy_40 : decode cX12_worthBy 40 = .ok (.iastore, 1) := by decide +kernel
theorem dX12_worthBy_41 : decode cX12_worthBy 41 = .ok (.aload_n 0, 1) := by decide +kernel
theorem dX12_worthBy_42 : decode cX12_worthBy 42 = .ok (.getfield 34, 3) := by decide +kernel
theorem dX12_worthBy_45 : decode cX12_worthBy 45 = .ok (.iconst 3, 1) := by decide +kernel
theorem dX12_worthBy_46 : decode cX12_worthBy 46 = .ok (.iload 5, 2) := by decide +kernel
theorem dX12_worthBy_48 : decode cX12_worthBy 48 = .ok (.iastore, 1) := by decide +kernel
theorem dX12_worthBy_49 : decode cX12_worthBy 49 = .ok (.aload_n 0, 1) := by decide +kernel
theorem dX12_worthBy_50 : decode cX12_worthBy 50 = .ok (.getfield 34, 3) := by decide +kernel
theorem dX12_worthBy_53 : decode cX12_worthBy 53 = .ok (.iconst 4, 1) := by decide +kernel
theorem dX12_worthBy_54 : decode cX12_worthBy 54 = .ok (.iload 6, 2) := by decide +kernel
theorem dX12_worthBy_56 : decode cX12_worthBy 56 = .ok (.iastore, 1) := by decide +kernel
theorem dX12_worthBy_57 : decode cX12_worthBy 57 = .ok (.aload_n 0, 1) := by decide +kernel
theorem dX12_worthBy_58 : decode cX12_worthBy 58 = .ok (.getfield 34, 3) := by decide +kernel
theorem dX12_worthBy_61 : decode cX12_worthBy 61 = .ok (.iconst 5, 1) := by decide +kernel
theorem dX12_worthBy_62 : decode cX12_worthBy 62 = .ok (.iload 7, 2) := by decide +kernel
theorem dX12_worthBy_64 : decode cX12_worthBy 64 = .ok (.iastore, 1) := by decide +kernel
theorem dX12_worthBy_65 : decode cX12_worthBy 65 = .ok (.bipush (-9), 2) := by decide +kernel
theorem dX12_worthBy_67 : decode cX12_worthBy 67 = .ok (.bipush 9, 2) := by decide +kernel
theorem dX12_worthBy_69 : decode cX12_worthBy 69 = .ok (.aload_n 0, 1) := by decide +kernel
theorem dX12_worthBy_70 : decode cX12_worthBy 70 = .ok (.iload_n 1, 1) := by decide +kernel
theorem dX12_worthBy_71 : decode cX12_worthBy 71 = .ok (.invokevirtual 365, 3) := by decide +kernel
theorem dX12_worthBy_74 : decode cX12_worthBy 74 = .ok (.invokestatic 339, 3) := by decide +kernel
theorem dX12_worthBy_77 : decode cX12_worthBy 77 = .ok (.invokestatic 328, 3) := by decide +kernel
theorem dX12_worthBy_80 : decode cX12_worthBy 80 = .ok (.ireturn, 1) := by decide +kernel
theorem dX12_worthOf_0 : decode cX12_worthOf 0 = .ok (.bipush 90, 2) := by decide +kernel
theorem dX12_worthOf_2 : decode cX12_worthOf 2 = .ok (.iload_n 1, 1) := by decide +kernel
theorem dX12_worthOf_3 : decode cX12_worthOf 3 = .ok (.imul, 1) := by decide +kernel
theorem dX12_worthOf_4 : decode cX12_worthOf 4 = .ok (.istore_n 2, 1) := by decide +kernel
theorem dX12_worthOf_5 : decode cX12_worthOf 5 = .ok (.iload_n 2, 1) := by decide +kernel
theorem dX12_worthOf_6 : decode cX12_worthOf 6 = .ok (.bipush 90, 2) := by decide +kernel
theorem dX12_worthOf_8 : decode cX12_worthOf 8 = .ok (.iload_n 1, 1) := by decide +kernel
theorem dX12_worthOf_9 : decode cX12_worthOf 9 = .ok (.imul, 1) := by decide +kernel
theorem dX12_worthOf_10 : decode cX12_worthOf 10 = .ok (.aload_n 0, 1) := by decide +kernel
theorem dX12_worthOf_11 : decode cX12_worthOf 11 = .ok (.getfield 22, 3) := by decide +kernel
theorem dX12_worthOf_14 : decode cX12_worthOf 14 = .ok (.iload_n 1, 1) := by decide +kernel
theorem dX12_worthOf_15 : decode cX12_worthOf 15 = .ok (.iaload, 1) := by decide +kernel
theorem dX12_worthOf_16 : decode cX12_worthOf 16 = .ok (.iadd, 1) := by decide +kernel
theorem dX12_worthOf_17 : decode cX12_worthOf 17 = .ok (.if_icmp .ge 62, 3) := by decide +kernel
theorem dX12_worthOf_20 : decode cX12_worthOf 20 = .ok (.aload_n 0, 1) := by decide +kernel
theorem dX12_worthOf_21 : decode cX12_worthOf 21 = .ok (.getfield 25, 3) := by decide +kernel
theorem dX12_worthOf_24 : decode cX12_worthOf 24 = .ok (.iload_n 2, 1) := by decide +kernel
theorem dX12_worthOf_25 : decode cX12_worthOf 25 = .ok (.iaload, 1) := by decide +kernel
theorem dX12_worthOf_26 : decode cX12_worthOf 26 = .ok (.aload_n 0, 1) := by decide +kernel
theorem dX12_worthOf_27 : decode cX12_worthOf 27 = .ok (.getfield 28, 3) := by decide +kernel
theorem dX12_worthOf_30 : decode cX12_worthOf 30 = .ok (.iload_n 2, 1) := by decide +kernel
theorem dX12_worthOf_31 : decode cX12_worthOf 31 = .ok (.iaload, 1) := by decide +kernel
theorem dX12_worthOf_32 : decode cX12_worthOf 32 = .ok (.if_icmp .eq 23, 3) := by decide +kernel
theorem dX12_worthOf_35 : decode cX12_worthOf 35 = .ok (.aload_n 0, 1) := by decide +kernel
theorem dX12_worthOf_36 : decode cX12_worthOf 36 = .ok (.iload_n 1, 1) := by decide +kernel
theorem dX12_worthOf_37 : decode cX12_worthOf 37 = .ok (.aload_n 0, 1) := by decide +kernel
theorem dX12_worthOf_38 : decode cX12_worthOf 38 = .ok (.getfield 25, 3) := by decide +kernel
theorem dX12_worthOf_41 : decode cX12_worthOf 41 = .ok (.iload_n 2, 1) := by decide +kernel
theorem dX12_worthOf_42 : decode cX12_worthOf 42 = .ok (.iaload, 1) := by decide +kernel
theorem dX12_worthOf_43 : decode cX12_worthOf 43 = .ok (.aload_n 0, 1) := by decide +kernel
theorem dX12_worthOf_44 : decode cX12_worthOf 44 = .ok (.getfield 28, 3) := by decide +kernel
theorem dX12_worthOf_47 : decode cX12_worthOf 47 = .ok (.iload_n 2, 1) := by decide +kernel
theorem dX12_worthOf_48 : decode cX12_worthOf 48 = .ok (.iaload, 1) := by decide +kernel
theorem dX12_worthOf_49 : decode cX12_worthOf 49 = .ok (.invokevirtual 228, 3) := by decide +kernel
theorem dX12_worthOf_52 : decode cX12_worthOf 52 = .ok (.ifCond .eq 21, 3) := by decide +kernel
theorem dX12_worthOf_55 : decode cX12_worthOf 55 = .ok (.aload_n 0, 1) := by decide +kernel
theorem dX12_worthOf_56 : decode cX12_worthOf 56 = .ok (.iload_n 1, 1) := by decide +kernel
theorem dX12_worthOf_57 : decode cX12_worthOf 57 = .ok (.aload_n 0, 1) := by decide +kernel
theorem dX12_worthOf_58 : decode cX12_worthOf 58 = .ok (.getfield 28, 3) := by decide +kernel
theorem dX12_worthOf_61 : decode cX12_worthOf 61 = .ok (.iload_n 2, 1) := by decide +kernel
theorem dX12_worthOf_62 : decode cX12_worthOf 62 = .ok (.iaload, 1) := by decide +kernel
theorem dX12_worthOf_63 : decode cX12_worthOf 63 = .ok (.aload_n 0, 1) := by decide +kernel
theorem dX12_worthOf_64 : decode cX12_worthOf 64 = .ok (.getfield 31, 3) := by decide +kernel
theorem dX12_worthOf_67 : decode cX12_worthOf 67 = .ok (.iload_n 2, 1) := by decide +kernel
theorem dX12_worthOf_68 : decode cX12_worthOf 68 = .ok (.iaload, 1) := by decide +kernel
theorem dX12_worthOf_69 : decode cX12_worthOf 69 = .ok (.invokevirtual 228, 3) := by decide +kernel
theorem dX12_worthOf_72 : decode cX12_worthOf 72 = .ok (.ireturn, 1) := by decide +kernel
theorem dX12_worthOf_73 : decode cX12_worthOf 73 = .ok (.iinc 2 1, 3) := by decide +kernel
theorem dX12_worthOf_76 : decode cX12_worthOf 76 = .ok (.goto (-71), 3) := by decide +kernel
theorem dX12_worthOf_79 : decode cX12_worthOf 79 = .ok (.iconst 0, 1) := by decide +kernel
theorem dX12_worthOf_80 : decode cX12_worthOf 80 = .ok (.ireturn, 1) := by decide +kernel
def w_X12_workOut : List Cond := .code yX12_workOut cX12_workOut 6 (some .int) :: ([Cond.fieldLink RX12 37 "HeadYearModel" "stack" "[I", Cond.fieldLink RX12 13 "HeadYearModel" "code" "[I", Cond.fieldLink RX12 34 "HeadYearModel" "letters" "[I", Cond.fieldLink RX12 16 "HeadYearModel" "value" "[I", Cond.methodLink RX12 224 yX12_worked, Cond.static yX12_worked, Cond.initialized RX12] ++ (u_ws RX12 TX12 54 ++ (w_X12_worked ++ ([]))))
theorem in_X12_workOut_X12 : ∀ w ∈ u_ws RX12 TX12 54, w ∈ w_X12_workOut := fun _ h => List.mem_cons_of_mem _ (List.mem_append_right _ (List.mem_append_left _ h))
theorem gg_X12_workOut_X12_worked : GoodIn w_X12_workOut w_X12_worked := goodIn_sub (fun _ h => List.mem_cons_of_mem _ (List.mem_append_right _ (List.mem_append_right _ (List.mem_append_left _ h)))) (by decide +kernel)
theorem g_X12_workOut_X12_worked_224 : GoodIn w_X12_workOut (va_wsS RX12 224 yX12_worked w_X12_worked) := goodIn_app (goodIn_of _ (by decide +kernel)) gg_X12_workOut_X12_worked
set_option maxHeartbeats 4000000 in
set_option maxRecDepth 100000 in
theorem c_X12_workOut (l : Launch) (E : py_E) (G : wf_G) (L : List Nat) (f : py_F) (sz : Nat) (u : Nat) (a : Int32) (b : Int32) (q : Int32) (hG : GT G) (hWF : WF E G L f) (Tu : G.1 u = 13) (Ba : (0 ≤ a.toInt ∧ a.toInt ≤ 4)) (Bb : (0 ≤ b.toInt ∧ b.toInt ≤ 340)) (Bq : (0 ≤ q.toInt ∧ q.toInt ≤ 340)) (hp0 : b.toInt ≤ q.toInt) (hq0 : rn (gfn f (G.2 u 6)) (gfn f (G.2 u 7)) 80 (q.toInt - b.toInt).toNat (340 * a.toInt + b.toInt).toNat 0 1) : Met l yX12_workOut w_X12_workOut ({ frames := 3, cells := 0, slots := 0, locals := 73 }) (py_Pc E [.ref u, .int a, .int b, .int q] L f sz) (py_Qi E L f sz (fun _ L1 f1 => WF E G L1 f1 ∧ KP G [49] false f f1 ∧ FK [] f f1 u)) 0 0 (va_A (va_pl L f) sz) := by
  refine Met.ofW (cc := cX12_workOut) (maxL := 6) (ret := (some .int)) (by decide) rfl ?_
  intro p e s m args below meth c s₁ B hml hv
  obtain ⟨rfl, rfl, hw⟩ := py_start hv
  have G0 : CallFix p m c cX12_workOut 6 s _ w_X12_workOut RX12 := ⟨B.exec, B.bytes, hml, findClass_of_methodNamed B.named, atoms_spec (ws := w_X12_workOut) B.pre⟩
  have hr := B.returns
  have hlk := B.notSynchronized
  have kcm1 : (-1 : Int32).toInt = -1 := rfl
  have kc0 : (0 : Int32).toInt = 0 := rfl
  have kc1 : (1 : Int32).toInt = 1 := rfl
  have kc9 : (9 : Int32).toInt = 9 := rfl
  have kc340 : (340 : Int32).toInt = 340 := rfl
  have hl := lv_entry ([.ref u, .int a, .int b, .int q]) (n := 6) (Nat.le_of_ble_eq_true rfl)
  rw [lg_entry_eq]
  generalize (lg_sl ([.ref u, .int a, .int b, .int q]) ++ List.replicate (6 - (lg_sl ([.ref u, .int a, .int b, .int q])).length) Slot.unset).toArray = ls at hl ⊢
  have hl : lv_has ls 6 [(0, .ref u), (1, .int a), (2, .int b), (3, .int q)] := hl
  have hFK : FK [] f f u := FK.refl
  have hKP : KP G [49] false f f := KP.refl
  refine lv_iconst (v := 0) G0.1 G0.2.1 dX12_workOut_0 (by decide) ?_
  refine lv_istore (lv' := [(4, .int 0), (0, .ref u), (1, .int a), (2, .int b), (3, .int q)]) G0.1 G0.2.1 dX12_workOut_1 hl (by decide) rfl (fun ls hl => ?_)
  refine lv_sipush (v := 340) G0.1 G0.2.1 dX12_workOut_3 (by decide) ?_
  refine lv_iload_n G0.1 G0.2.1 dX12_workOut_6 rfl (lv_at hl 2 rfl) ?_
  refine lv_imul G0.1 G0.2.1 dX12_workOut_7 ?_
  refine lv_topi (fun x_1 ex_1 => ?_)
  first | have tx_1 := ti_muld ex_1 kc340 (by omega -splitDisjunctions) (by omega -splitDisjunctions) | skip
  refine lv_iload_n G0.1 G0.2.1 dX12_workOut_8 rfl (lv_at hl 3 rfl) ?_
  refine lv_iadd G0.1 G0.2.1 dX12_workOut_9 ?_
  refine lv_topi (fun x_2 ex_2 => ?_)
  first | have tx_2 := ti_add ex_2 (by omega -splitDisjunctions) (by omega -splitDisjunctions) | skip
  refine lv_istore (lv' := [(5, .int x_2), (4, .int 0), (0, .ref u), (1, .int a), (2, .int b), (3, .int q)]) G0.1 G0.2.1 dX12_workOut_10 hl (by decide) rfl (fun ls hl => ?_)
  have lo_12 : ∀ n_12 : Nat, ∀ (v_3 : Int32) (v_4 : Int32) (L_j12 : List Nat) (f_j12 : py_F) (H_j12 : Heap) (locs : List Loc) (ls : Array Slot), (2147483647 - v_3.toInt).toNat = n_12 → (0 ≤ v_3.toInt ∧ v_3.toInt ≤ 1700) → WF E G L_j12 f_j12 → KP G [49] false f f_j12 → FK [] f f_j12 u → (0 ≤ v_4.toInt ∧ v_4.toInt ≤ 80) → (340 * a.toInt + b.toInt ≤ v_3.toInt ∧ v_3.toInt ≤ 340 * a.toInt + q.toInt) → (rn (gfn f (G.2 u 6)) (gfn f (G.2 u 7)) 80 (340 * a.toInt + q.toInt - v_3.toInt).toNat v_3.toInt.toNat v_4.toInt 1) → py_W E (va_A (va_pl L f) s.heap.size) s L_j12 f_j12 H_j12 locs → lv_has ls 6 [(5, .int v_3), (4, .int v_4), (0, .ref u), (1, .int a), (2, .int b), (3, .int q)] → W p l e (headSpec w_X12_workOut ({ frames := 3, cells := 0, slots := 0, locals := 73 })).room s m ([.ref u, .int a, .int b, .int q] : List Value).toArray below meth c H_j12 locs 0 0 (MQ below (py_Qi E L f s.heap.size (fun _ L1 f1 => WF E G L1 f1 ∧ KP G [49] false f f1 ∧ FK [] f f1 u)) ([.ref u, .int a, .int b, .int q] : List Value).toArray s 0 0 (va_A (va_pl L f) s.heap.size)) (F0 m 12 ls []) := by
    intro n_12
    induction n_12 using Nat.strongRecOn with
    | _ n_12 ih_12 =>
      intro v_3 v_4 L_j12 f_j12 H_j12 locs ls hn_12 bv_3 hWF hKP hFK iv0 iv1 iv2 hw hl
      refine lv_iload G0.1 G0.2.1 dX12_workOut_12 (lv_at hl 0 rfl) ?_
      refine lv_sipush (v := 340) G0.1 G0.2.1 dX12_workOut_14 (by decide) ?_
      refine lv_iload_n G0.1 G0.2.1 dX12_workOut_17 rfl (lv_at hl 3 rfl) ?_
      refine lv_imul G0.1 G0.2.1 dX12_workOut_18 ?_
      refine lv_topi (fun x_5 ex_5 => ?_)
      first | have tx_5 := ti_muld ex_5 kc340 (by omega -splitDisjunctions) (by omega -splitDisjunctions) | skip
      refine lv_iload_n G0.1 G0.2.1 dX12_workOut_19 rfl (lv_at hl 5 rfl) ?_
      refine lv_iadd G0.1 G0.2.1 dX12_workOut_20 ?_
      refine lv_topi (fun x_6 ex_6 => ?_)
      first | have tx_6 := ti_add ex_6 (by omega -splitDisjunctions) (by omega -splitDisjunctions) | skip
      refine lv_icmp_ge (tgt := 171) G0.1 G0.2.1 dX12_workOut_21 (by decide) (fun c_7 => ?_) (fun c_7 => ?_)
      · skip
        have tc_7 := ti_le c_7
        refine lv_aload_n G0.1 G0.2.1 dX12_workOut_171 rfl (lv_at hl 2 rfl) ?_
        obtain ⟨v_8, v_9, v_10, v_11, v_12, v_13, v_14, v_15, v_16, v_17, v_18, v_19, y_20, v_21, v_22, v_23, v_24, v_25, y_26, v_27, y_28, v_29, hr_42, b_30, b_31, b_32, b_33, b_34, b_35, b_36, b_37, b_38, b_39, b_40, b_41⟩ := wg_12 hWF Tu
        refine py_get (C := RX12) (T := TX12) (N := 54) (k := 16) (v := .ref (G.2 u 16)) G0 hw in_X12_workOut_X12 rfl hr_42 (by decide) (by decide +kernel) rfl dX12_workOut_172 ?_
        refine lv_iconst (v := 0) G0.1 G0.2.1 dX12_workOut_175 (by decide) ?_
        obtain ⟨g_43, ha_44, hi_45⟩ := wf_arr (n := 80) (lo := (-2147483648)) (hi := 2147483647) hWF (wt12_16 hG Tu) (by decide) (fun _ => rfl)
        have rg_46 : vp_in 0 80 := ti_in (by omega) (by omega)
        refine py_iald G0 hw ha_44 rg_46 dX12_workOut_176 ?_
        refine lv_topi (fun x_47 ex_47 => ?_)
        have bx_47 := wf_free x_47
        have zx_47 := arz_ld ha_44 ex_47
        exact py_iret G0 hr rfl hlk hw ⟨hWF, hKP, hFK⟩ dX12_workOut_177
      · skip
        have tc_7 := ti_nle c_7
        have h6 := kp_f hKP (wt12_6 hG Tu) (by decide) (by decide) (fun _ => by decide)
        have h7 := kp_f hKP (wt12_7 hG Tu) (by decide) (by decide) (fun _ => by decide)
        have e6 := arz_kp h6 v_3.toInt
        have e7 := arz_kp h7 v_3.toInt
        obtain ⟨s1, s2, s3, s4, n1, n9, n2⟩ := rn_step (n1 := (340 * a.toInt + q.toInt - v_3.toInt - 1).toNat) iv2 (by omega) (by omega)
        refine lv_aload_n G0.1 G0.2.1 dX12_workOut_24 rfl (lv_at hl 2 rfl) ?_
        obtain ⟨v_48, v_49, v_50, v_51, v_52, v_53, v_54, v_55, v_56, v_57, v_58, v_59, y_60, v_61, v_62, v_63, v_64, v_65, y_66, v_67, y_68, v_69, hr_82, b_70, b_71, b_72, b_73, b_74, b_75, b_76, b_77, b_78, b_79, b_80, b_81⟩ := wg_12 hWF Tu
        refine py_get (C := RX12) (T := TX12) (N := 54) (k := 6) (v := .ref (G.2 u 6)) G0 hw in_X12_workOut_X12 rfl hr_82 (by decide) (by decide +kernel) rfl dX12_workOut_25 ?_
        refine lv_iload G0.1 G0.2.1 dX12_workOut_28 (lv_at hl 0 rfl) ?_
        obtain ⟨g_83, ha_84, hi_85⟩ := wf_arr (n := 1700) (lo := (-2147483648)) (hi := 2147483647) hWF (wt12_6 hG Tu) (by decide) (fun _ => rfl)
        have rg_86 : vp_in v_3 1700 := ti_in (by omega) (by omega)
        refine py_iald G0 hw ha_84 rg_86 dX12_workOut_30 ?_
        refine lv_topi (fun x_87 ex_87 => ?_)
        have bx_87 := wf_free x_87
        have zx_87 := arz_ld ha_84 ex_87
        refine lv_if_eq (tgt := 45) G0.1 G0.2.1 dX12_workOut_31 (by decide) (fun c_88 => ?_) (fun c_88 => ?_)
        · skip
          have tc_88 := ti_eq c_88
          refine lv_aload_n G0.1 G0.2.1 dX12_workOut_45 rfl (lv_at hl 2 rfl) ?_
          refine py_get (C := RX12) (T := TX12) (N := 54) (k := 16) (v := .ref (G.2 u 16)) G0 hw in_X12_workOut_X12 rfl hr_82 (by decide) (by decide +kernel) rfl dX12_workOut_46 ?_
          refine lv_iload G0.1 G0.2.1 dX12_workOut_49 (lv_at hl 1 rfl) ?_
          refine lv_aload_n G0.1 G0.2.1 dX12_workOut_51 rfl (lv_at hl 2 rfl) ?_
          refine py_get (C := RX12) (T := TX12) (N := 54) (k := 6) (v := .ref (G.2 u 6)) G0 hw in_X12_workOut_X12 rfl hr_82 (by decide) (by decide +kernel) rfl dX12_workOut_52 ?_
          refine lv_iload G0.1 G0.2.1 dX12_workOut_55 (lv_at hl 0 rfl) ?_
          have rg_89 : vp_in v_3 1700 := ti_in (by omega) (by omega)
          refine py_iald G0 hw ha_84 rg_89 dX12_workOut_57 ?_
          refine lv_topi (fun x_90 ex_90 => ?_)
          have bx_90 := wf_free x_90
          have zx_90 := arz_ld ha_84 ex_90
          refine lv_if_ne (tgt := 71) G0.1 G0.2.1 dX12_workOut_58 (by decide) (fun c_91 => ?_) (fun c_91 => ?_)
          · skip
            have tc_91 := ti_ne c_91
            refine lv_aload_n G0.1 G0.2.1 dX12_workOut_71 rfl (lv_at hl 2 rfl) ?_
            refine py_get (C := RX12) (T := TX12) (N := 54) (k := 15) (v := .ref (G.2 u 15)) G0 hw in_X12_workOut_X12 rfl hr_82 (by decide) (by decide +kernel) rfl dX12_workOut_72 ?_
            refine lv_aload_n G0.1 G0.2.1 dX12_workOut_75 rfl (lv_at hl 2 rfl) ?_
            refine py_get (C := RX12) (T := TX12) (N := 54) (k := 7) (v := .ref (G.2 u 7)) G0 hw in_X12_workOut_X12 rfl hr_82 (by decide) (by decide +kernel) rfl dX12_workOut_76 ?_
            refine lv_iload G0.1 G0.2.1 dX12_workOut_79 (lv_at hl 0 rfl) ?_
            obtain ⟨g_92, ha_93, hi_94⟩ := wf_arr (n := 1700) (lo := (-2147483648)) (hi := 2147483647) hWF (wt12_7 hG Tu) (by decide) (fun _ => rfl)
            have rg_95 : vp_in v_3 1700 := ti_in (by omega) (by omega)
            refine py_iald G0 hw ha_93 rg_95 dX12_workOut_81 ?_
            refine lv_topi (fun x_96 ex_96 => ?_)
            have bx_96 := wf_free x_96
            have zx_96 := arz_ld ha_93 ex_96
            obtain ⟨g_97, ha_98, hi_99⟩ := wf_arr (n := 6) (lo := (-2147483648)) (hi := 2147483647) hWF (wt12_15 hG Tu) (by decide) (fun _ => rfl)
            have rg_100 : vp_in x_96 6 := ti_in (by omega) (by omega)
            refine py_iald G0 hw ha_98 rg_100 dX12_workOut_82 ?_
            refine lv_topi (fun x_101 ex_101 => ?_)
            have bx_101 := wf_free x_101
            have zx_101 := arz_ld ha_98 ex_101
            obtain ⟨g_102, ha_103, hi_104⟩ := wf_arr (n := 80) (lo := (-2147483648)) (hi := 2147483647) hWF (wt12_16 hG Tu) (by decide) (fun _ => rfl)
            have rg_105 : vp_in v_4 80 := ti_in (by omega) (by omega)
            refine py_iast G0 hw ha_103 rg_105 dX12_workOut_83 (fun f_106 H_107 locs h_108 x_109 hw => ?_)
            have hFK := hFK.same ((x_109 _ (hWF _ (by rw [Tu]; decide)).1 (wf_ne Tu (wt12_16 hG Tu) (by decide))).2)
            have hKP := hKP.upd hWF x_109 (wt12_16 hG Tu) (Or.inl (by decide))
            have hi_110 := wf_inu (k := (v_4 : Int32).toNatClampNeg) (x := x_101) hi_104 (wf_free x_101).1 (wf_free x_101).2
            have hWF := wf_upd hWF h_108 x_109 (by rw [(wt12_16 hG Tu)]; exact ⟨_, rfl, hi_110⟩)
            have hr_82 := hr_82.ext x_109 (py_ne_arr hr_82 ha_103)
            have ha_84 := ha_84.ext x_109 (wf_ne (wt12_6 hG Tu) (wt12_16 hG Tu) (by decide))
            have ha_93 := ha_93.ext x_109 (wf_ne (wt12_7 hG Tu) (wt12_16 hG Tu) (by decide))
            have ha_98 := ha_98.ext x_109 (wf_ne (wt12_15 hG Tu) (wt12_16 hG Tu) (by decide))
            obtain ⟨x_111, ex_111⟩ : ∃ y : Int32, y = v_4 + 1 := ⟨_, rfl⟩
            first | have tx_111 := ti_add ex_111 (by omega -splitDisjunctions) (by omega -splitDisjunctions) | skip
            refine lv_iinc (v := x_111) (lv' := [(4, .int x_111), (5, .int v_3), (0, .ref u), (1, .int a), (2, .int b), (3, .int q)]) G0.1 G0.2.1 dX12_workOut_84 hl (k := 1) rfl (show _ + (1 : Int32) = _ from ex_111.symm) (by decide) rfl (fun ls hl => ?_)
            refine lv_goto (tgt := 165) G0.1 G0.2.1 dX12_workOut_87 (by decide) ?_
            obtain ⟨x_112, ex_112⟩ : ∃ y : Int32, y = v_3 + 1 := ⟨_, rfl⟩
            first | have tx_112 := ti_add ex_112 (by omega -splitDisjunctions) (by omega -splitDisjunctions) | skip
            refine lv_iinc (v := x_112) (lv' := [(5, .int x_112), (4, .int x_111), (0, .ref u), (1, .int a), (2, .int b), (3, .int q)]) G0.1 G0.2.1 dX12_workOut_165 hl (k := 1) rfl (show _ + (1 : Int32) = _ from ex_112.symm) (by decide) rfl (fun ls hl => ?_)
            refine lv_goto (tgt := 12) G0.1 G0.2.1 dX12_workOut_168 (by decide) ?_
            exact ih_12 ((2147483647 - x_112.toInt).toNat) (by omega) x_112 x_111 L_j12 f_106 _ _ ls rfl ⟨by omega, by omega⟩ hWF hKP hFK (by first | omega | (intros; omega)) (by first | omega | (intros; omega)) (by have hz : rn (gfn f (G.2 u 6)) (gfn f (G.2 u 7)) 80 (340 * a.toInt + q.toInt - v_3.toInt - 1).toNat (v_3.toInt + 1).toNat x_111.toInt 1 := (by first | (rw [show x_111.toInt = v_4.toInt + 1 by omega]; exact n1 (by omega)) | (rw [show x_111.toInt = v_4.toInt - 1 by omega]; exact n2 (by omega) (by omega) (by omega)) | (rw [show x_111.toInt = v_4.toInt by omega]; exact n9 (by omega)) | exact n9 (by omega)); rw [show (340 * a.toInt + q.toInt - x_112.toInt).toNat = (340 * a.toInt + q.toInt - v_3.toInt - 1).toNat by omega, show x_112.toInt.toNat = (v_3.toInt + 1).toNat by omega]; exact hz) hw (lv_sub hl [0, 1, 2, 3, 4, 5] rfl)
          · skip
            have tc_91 := ti_eq c_91
            refine lv_aload_n G0.1 G0.2.1 dX12_workOut_61 rfl (lv_at hl 2 rfl) ?_
            refine py_get (C := RX12) (T := TX12) (N := 54) (k := 7) (v := .ref (G.2 u 7)) G0 hw in_X12_workOut_X12 rfl hr_82 (by decide) (by decide +kernel) rfl dX12_workOut_62 ?_
            refine lv_iload G0.1 G0.2.1 dX12_workOut_65 (lv_at hl 0 rfl) ?_
            obtain ⟨g_113, ha_114, hi_115⟩ := wf_arr (n := 1700) (lo := (-2147483648)) (hi := 2147483647) hWF (wt12_7 hG Tu) (by decide) (fun _ => rfl)
            have rg_116 : vp_in v_3 1700 := ti_in (by omega) (by omega)
            refine py_iald G0 hw ha_114 rg_116 dX12_workOut_67 ?_
            refine lv_topi (fun x_117 ex_117 => ?_)
            have bx_117 := wf_free x_117
            have zx_117 := arz_ld ha_114 ex_117
            refine lv_goto (tgt := 83) G0.1 G0.2.1 dX12_workOut_68 (by decide) ?_
            obtain ⟨g_118, ha_119, hi_120⟩ := wf_arr (n := 80) (lo := (-2147483648)) (hi := 2147483647) hWF (wt12_16 hG Tu) (by decide) (fun _ => rfl)
            have rg_121 : vp_in v_4 80 := ti_in (by omega) (by omega)
            refine py_iast G0 hw ha_119 rg_121 dX12_workOut_83 (fun f_122 H_123 locs h_124 x_125 hw => ?_)
            have hFK := hFK.same ((x_125 _ (hWF _ (by rw [Tu]; decide)).1 (wf_ne Tu (wt12_16 hG Tu) (by decide))).2)
            have hKP := hKP.upd hWF x_125 (wt12_16 hG Tu) (Or.inl (by decide))
            have hi_126 := wf_inu (k := (v_4 : Int32).toNatClampNeg) (x := x_117) hi_120 (wf_free x_117).1 (wf_free x_117).2
            have hWF := wf_upd hWF h_124 x_125 (by rw [(wt12_16 hG Tu)]; exact ⟨_, rfl, hi_126⟩)
            have hr_82 := hr_82.ext x_125 (py_ne_arr hr_82 ha_119)
            have ha_84 := ha_84.ext x_125 (wf_ne (wt12_6 hG Tu) (wt12_16 hG Tu) (by decide))
            have ha_114 := ha_114.ext x_125 (wf_ne (wt12_7 hG Tu) (wt12_16 hG Tu) (by decide))
            obtain ⟨x_127, ex_127⟩ : ∃ y : Int32, y = v_4 + 1 := ⟨_, rfl⟩
            first | have tx_127 := ti_add ex_127 (by omega -splitDisjunctions) (by omega -splitDisjunctions) | skip
            refine lv_iinc (v := x_127) (lv' := [(4, .int x_127), (5, .int v_3), (0, .ref u), (1, .int a), (2, .int b), (3, .int q)]) G0.1 G0.2.1 dX12_workOut_84 hl (k := 1) rfl (show _ + (1 : Int32) = _ from ex_127.symm) (by decide) rfl (fun ls hl => ?_)
            refine lv_goto (tgt := 165) G0.1 G0.2.1 dX12_workOut_87 (by decide) ?_
            obtain ⟨x_128, ex_128⟩ : ∃ y : Int32, y = v_3 + 1 := ⟨_, rfl⟩
            first | have tx_128 := ti_add ex_128 (by omega -splitDisjunctions) (by omega -splitDisjunctions) | skip
            refine lv_iinc (v := x_128) (lv' := [(5, .int x_128), (4, .int x_127), (0, .ref u), (1, .int a), (2, .int b), (3, .int q)]) G0.1 G0.2.1 dX12_workOut_165 hl (k := 1) rfl (show _ + (1 : Int32) = _ from ex_128.symm) (by decide) rfl (fun ls hl => ?_)
            refine lv_goto (tgt := 12) G0.1 G0.2.1 dX12_workOut_168 (by decide) ?_
            exact ih_12 ((2147483647 - x_128.toInt).toNat) (by omega) x_128 x_127 L_j12 f_122 _ _ ls rfl ⟨by omega, by omega⟩ hWF hKP hFK (by first | omega | (intros; omega)) (by first | omega | (intros; omega)) (by have hz : rn (gfn f (G.2 u 6)) (gfn f (G.2 u 7)) 80 (340 * a.toInt + q.toInt - v_3.toInt - 1).toNat (v_3.toInt + 1).toNat x_127.toInt 1 := (by first | (rw [show x_127.toInt = v_4.toInt + 1 by omega]; exact n1 (by omega)) | (rw [show x_127.toInt = v_4.toInt - 1 by omega]; exact n2 (by omega) (by omega) (by omega)) | (rw [show x_127.toInt = v_4.toInt by omega]; exact n9 (by omega)) | exact n9 (by omega)); rw [show (340 * a.toInt + q.toInt - x_128.toInt).toNat = (340 * a.toInt + q.toInt - v_3.toInt - 1).toNat by omega, show x_128.toInt.toNat = (v_3.toInt + 1).toNat by omega]; exact hz) hw (lv_sub hl [0, 1, 2, 3, 4, 5] rfl)
        · skip
          have tc_88 := ti_ne c_88
          refine lv_aload_n G0.1 G0.2.1 dX12_workOut_34 rfl (lv_at hl 2 rfl) ?_
          refine py_get (C := RX12) (T := TX12) (N := 54) (k := 6) (v := .ref (G.2 u 6)) G0 hw in_X12_workOut_X12 rfl hr_82 (by decide) (by decide +kernel) rfl dX12_workOut_35 ?_
          refine lv_iload G0.1 G0.2.1 dX12_workOut_38 (lv_at hl 0 rfl) ?_
          have rg_129 : vp_in v_3 1700 := ti_in (by omega) (by omega)
          refine py_iald G0 hw ha_84 rg_129 dX12_workOut_40 ?_
          refine lv_topi (fun x_130 ex_130 => ?_)
          have bx_130 := wf_free x_130
          have zx_130 := arz_ld ha_84 ex_130
          refine lv_iconst (v := 1) G0.1 G0.2.1 dX12_workOut_41 (by decide) ?_
          refine lv_icmp_ne (tgt := 90) G0.1 G0.2.1 dX12_workOut_42 (by decide) (fun c_131 => ?_) (fun c_131 => ?_)
          · skip
            have tc_131 := ti_ne c_131
            refine lv_aload_n G0.1 G0.2.1 dX12_workOut_90 rfl (lv_at hl 2 rfl) ?_
            refine py_get (C := RX12) (T := TX12) (N := 54) (k := 6) (v := .ref (G.2 u 6)) G0 hw in_X12_workOut_X12 rfl hr_82 (by decide) (by decide +kernel) rfl dX12_workOut_91 ?_
            refine lv_iload G0.1 G0.2.1 dX12_workOut_94 (lv_at hl 0 rfl) ?_
            have rg_132 : vp_in v_3 1700 := ti_in (by omega) (by omega)
            refine py_iald G0 hw ha_84 rg_132 dX12_workOut_96 ?_
            refine lv_topi (fun x_133 ex_133 => ?_)
            have bx_133 := wf_free x_133
            have zx_133 := arz_ld ha_84 ex_133
            refine lv_bipush (v := 9) G0.1 G0.2.1 dX12_workOut_97 (by decide) ?_
            refine lv_icmp_ne (tgt := 125) G0.1 G0.2.1 dX12_workOut_99 (by decide) (fun c_134 => ?_) (fun c_134 => ?_)
            · skip
              have tc_134 := ti_ne c_134
              obtain ⟨x_135, ex_135⟩ : ∃ y : Int32, y = v_4 + (-1) := ⟨_, rfl⟩
              first | have tx_135 := ti_add ex_135 (by omega -splitDisjunctions) (by omega -splitDisjunctions) | skip
              refine lv_iinc (v := x_135) (lv' := [(4, .int x_135), (5, .int v_3), (0, .ref u), (1, .int a), (2, .int b), (3, .int q)]) G0.1 G0.2.1 dX12_workOut_125 hl (k := 1) rfl (show _ + ((-1) : Int32) = _ from ex_135.symm) (by decide) rfl (fun ls hl => ?_)
              refine lv_aload_n G0.1 G0.2.1 dX12_workOut_128 rfl (lv_at hl 2 rfl) ?_
              refine py_get (C := RX12) (T := TX12) (N := 54) (k := 16) (v := .ref (G.2 u 16)) G0 hw in_X12_workOut_X12 rfl hr_82 (by decide) (by decide +kernel) rfl dX12_workOut_129 ?_
              refine lv_iload G0.1 G0.2.1 dX12_workOut_132 (lv_at hl 0 rfl) ?_
              refine lv_iconst (v := 1) G0.1 G0.2.1 dX12_workOut_134 (by decide) ?_
              refine lv_isub G0.1 G0.2.1 dX12_workOut_135 ?_
              refine lv_topi (fun x_136 ex_136 => ?_)
              first | have tx_136 := ti_sub ex_136 (by omega -splitDisjunctions) (by omega -splitDisjunctions) | skip
              refine lv_aload_n G0.1 G0.2.1 dX12_workOut_136 rfl (lv_at hl 2 rfl) ?_
              refine py_get (C := RX12) (T := TX12) (N := 54) (k := 6) (v := .ref (G.2 u 6)) G0 hw in_X12_workOut_X12 rfl hr_82 (by decide) (by decide +kernel) rfl dX12_workOut_137 ?_
              refine lv_iload G0.1 G0.2.1 dX12_workOut_140 (lv_at hl 1 rfl) ?_
              have rg_137 : vp_in v_3 1700 := ti_in (by omega) (by omega)
              refine py_iald G0 hw ha_84 rg_137 dX12_workOut_142 ?_
              refine lv_topi (fun x_138 ex_138 => ?_)
              have bx_138 := wf_free x_138
              have zx_138 := arz_ld ha_84 ex_138
              refine lv_aload_n G0.1 G0.2.1 dX12_workOut_143 rfl (lv_at hl 2 rfl) ?_
              refine py_get (C := RX12) (T := TX12) (N := 54) (k := 16) (v := .ref (G.2 u 16)) G0 hw in_X12_workOut_X12 rfl hr_82 (by decide) (by decide +kernel) rfl dX12_workOut_144 ?_
              refine lv_iload G0.1 G0.2.1 dX12_workOut_147 (lv_at hl 0 rfl) ?_
              refine lv_iconst (v := 1) G0.1 G0.2.1 dX12_workOut_149 (by decide) ?_
              refine lv_isub G0.1 G0.2.1 dX12_workOut_150 ?_
              refine lv_topi (fun x_139 ex_139 => ?_)
              first | have tx_139 := ti_sub ex_139 (by omega -splitDisjunctions) (by omega -splitDisjunctions) | skip
              obtain ⟨g_140, ha_141, hi_142⟩ := wf_arr (n := 80) (lo := (-2147483648)) (hi := 2147483647) hWF (wt12_16 hG Tu) (by decide) (fun _ => rfl)
              have rg_143 : vp_in x_139 80 := ti_in (by omega) (by omega)
              refine py_iald G0 hw ha_141 rg_143 dX12_workOut_151 ?_
              refine lv_topi (fun x_144 ex_144 => ?_)
              have bx_144 := wf_free x_144
              have zx_144 := arz_ld ha_141 ex_144
              refine lv_i2l (v := x_144.toInt64) G0.1 G0.2.1 dX12_workOut_152 rfl ?_
              refine lv_aload_n G0.1 G0.2.1 dX12_workOut_153 rfl (lv_at hl 2 rfl) ?_
              refine py_get (C := RX12) (T := TX12) (N := 54) (k := 16) (v := .ref (G.2 u 16)) G0 hw in_X12_workOut_X12 rfl hr_82 (by decide) (by decide +kernel) rfl dX12_workOut_154 ?_
              refine lv_iload G0.1 G0.2.1 dX12_workOut_157 (lv_at hl 0 rfl) ?_
              have rg_145 : vp_in x_135 80 := ti_in (by omega) (by omega)
              refine py_iald G0 hw ha_141 rg_145 dX12_workOut_159 ?_
              refine lv_topi (fun x_146 ex_146 => ?_)
              have bx_146 := wf_free x_146
              have zx_146 := arz_ld ha_141 ex_146
              refine lv_i2l (v := x_146.toInt64) G0.1 G0.2.1 dX12_workOut_160 rfl ?_
              refine py_calli hw (va_runS (As := [.int x_138, .long (x_144.toInt64), .long (x_146.toInt64)]) (rest := [.int x_136, .ref (G.2 u 16)]) G0 (c_X12_worked l E G L_j12 f_j12 H_j12.size x_138 (x_144.toInt64) (x_146.toInt64) hG hWF) (va_cwS 3 G0.2.2.2.2 g_X12_workOut_X12_worked_224 rfl rfl rfl (by decide +kernel) ⟨(Nat.le_of_ble_eq_true rfl), (Nat.le_of_ble_eq_true rfl)⟩) (py_preS hw) rfl rfl hl.1 rfl (lv_room (Nat.le_of_ble_eq_true rfl)) dX12_workOut_161 ⟨(Nat.le_of_ble_eq_true rfl), (Nat.le_of_ble_eq_true rfl)⟩) (fun r_151 L_147 f_148 H_149 locs hp_150 hw => ?_)
              obtain ⟨rfl, rfl⟩ := hp_150
              have br_151 := wf_free r_151
              have rg_152 : vp_in x_136 80 := ti_in (by omega) (by omega)
              refine py_iast G0 hw ha_141 rg_152 dX12_workOut_164 (fun f_153 H_154 locs h_155 x_156 hw => ?_)
              have hFK := hFK.same ((x_156 _ (hWF _ (by rw [Tu]; decide)).1 (wf_ne Tu (wt12_16 hG Tu) (by decide))).2)
              have hKP := hKP.upd hWF x_156 (wt12_16 hG Tu) (Or.inl (by decide))
              have hi_157 := wf_inu (k := (x_136 : Int32).toNatClampNeg) (x := r_151) hi_142 (wf_free r_151).1 (wf_free r_151).2
              have hWF := wf_upd hWF h_155 x_156 (by rw [(wt12_16 hG Tu)]; exact ⟨_, rfl, hi_157⟩)
              have hr_82 := hr_82.ext x_156 (py_ne_arr hr_82 ha_141)
              have ha_84 := ha_84.ext x_156 (wf_ne (wt12_6 hG Tu) (wt12_16 hG Tu) (by decide))
              obtain ⟨x_158, ex_158⟩ : ∃ y : Int32, y = v_3 + 1 := ⟨_, rfl⟩
              first | have tx_158 := ti_add ex_158 (by omega -splitDisjunctions) (by omega -splitDisjunctions) | skip
              refine lv_iinc (v := x_158) (lv' := [(5, .int x_158), (4, .int x_135), (0, .ref u), (1, .int a), (2, .int b), (3, .int q)]) G0.1 G0.2.1 dX12_workOut_165 hl (k := 1) rfl (show _ + (1 : Int32) = _ from ex_158.symm) (by decide) rfl (fun ls hl => ?_)
              refine lv_goto (tgt := 12) G0.1 G0.2.1 dX12_workOut_168 (by decide) ?_
              exact ih_12 ((2147483647 - x_158.toInt).toNat) (by omega) x_158 x_135 L_j12 f_153 _ _ ls rfl ⟨by omega, by omega⟩ hWF hKP hFK (by first | omega | (intros; omega)) (by first | omega | (intros; omega)) (by have hz : rn (gfn f (G.2 u 6)) (gfn f (G.2 u 7)) 80 (340 * a.toInt + q.toInt - v_3.toInt - 1).toNat (v_3.toInt + 1).toNat x_135.toInt 1 := (by first | (rw [show x_135.toInt = v_4.toInt + 1 by omega]; exact n1 (by omega)) | (rw [show x_135.toInt = v_4.toInt - 1 by omega]; exact n2 (by omega) (by omega) (by omega)) | (rw [show x_135.toInt = v_4.toInt by omega]; exact n9 (by omega)) | exact n9 (by omega)); rw [show (340 * a.toInt + q.toInt - x_158.toInt).toNat = (340 * a.toInt + q.toInt - v_3.toInt - 1).toNat by omega, show x_158.toInt.toNat = (v_3.toInt + 1).toNat by omega]; exact hz) hw (lv_sub hl [0, 1, 2, 3, 4, 5] rfl)
            · skip
              have tc_134 := ti_eq c_134
              refine lv_aload_n G0.1 G0.2.1 dX12_workOut_102 rfl (lv_at hl 2 rfl) ?_
              refine py_get (C := RX12) (T := TX12) (N := 54) (k := 16) (v := .ref (G.2 u 16)) G0 hw in_X12_workOut_X12 rfl hr_82 (by decide) (by decide +kernel) rfl dX12_workOut_103 ?_
              refine lv_iload G0.1 G0.2.1 dX12_workOut_106 (lv_at hl 1 rfl) ?_
              refine lv_iconst (v := 1) G0.1 G0.2.1 dX12_workOut_108 (by decide) ?_
              refine lv_isub G0.1 G0.2.1 dX12_workOut_109 ?_
              refine lv_topi (fun x_159 ex_159 => ?_)
              first | have tx_159 := ti_sub ex_159 (by omega -splitDisjunctions) (by omega -splitDisjunctions) | skip
              refine lv_iconst (v := 1) G0.1 G0.2.1 dX12_workOut_110 (by decide) ?_
              refine lv_aload_n G0.1 G0.2.1 dX12_workOut_111 rfl (lv_at hl 2 rfl) ?_
              refine py_get (C := RX12) (T := TX12) (N := 54) (k := 16) (v := .ref (G.2 u 16)) G0 hw in_X12_workOut_X12 rfl hr_82 (by decide) (by decide +kernel) rfl dX12_workOut_112 ?_
              refine lv_iload G0.1 G0.2.1 dX12_workOut_115 (lv_at hl 1 rfl) ?_
              refine lv_iconst (v := 1) G0.1 G0.2.1 dX12_workOut_117 (by decide) ?_
              refine lv_isub G0.1 G0.2.1 dX12_workOut_118 ?_
              refine lv_topi (fun x_160 ex_160 => ?_)
              first | have tx_160 := ti_sub ex_160 (by omega -splitDisjunctions) (by omega -splitDisjunctions) | skip
              obtain ⟨g_161, ha_162, hi_163⟩ := wf_arr (n := 80) (lo := (-2147483648)) (hi := 2147483647) hWF (wt12_16 hG Tu) (by decide) (fun _ => rfl)
              have rg_164 : vp_in x_160 80 := ti_in (by omega) (by omega)
              refine py_iald G0 hw ha_162 rg_164 dX12_workOut_119 ?_
              refine lv_topi (fun x_165 ex_165 => ?_)
              have bx_165 := wf_free x_165
              have zx_165 := arz_ld ha_162 ex_165
              refine lv_isub G0.1 G0.2.1 dX12_workOut_120 ?_
              refine lv_topi (fun x_166 ex_166 => ?_)
              first | have tx_166 := ti_sub ex_166 (by omega -splitDisjunctions) (by omega -splitDisjunctions) | skip
              have rg_167 : vp_in x_159 80 := ti_in (by omega) (by omega)
              refine py_iast G0 hw ha_162 rg_167 dX12_workOut_121 (fun f_168 H_169 locs h_170 x_171 hw => ?_)
              have hFK := hFK.same ((x_171 _ (hWF _ (by rw [Tu]; decide)).1 (wf_ne Tu (wt12_16 hG Tu) (by decide))).2)
              have hKP := hKP.upd hWF x_171 (wt12_16 hG Tu) (Or.inl (by decide))
              have hi_172 := wf_inu (k := (x_159 : Int32).toNatClampNeg) (x := x_166) hi_163 (wf_free x_166).1 (wf_free x_166).2
              have hWF := wf_upd hWF h_170 x_171 (by rw [(wt12_16 hG Tu)]; exact ⟨_, rfl, hi_172⟩)
              have hr_82 := hr_82.ext x_171 (py_ne_arr hr_82 ha_162)
              have ha_84 := ha_84.ext x_171 (wf_ne (wt12_6 hG Tu) (wt12_16 hG Tu) (by decide))
              refine lv_goto (tgt := 165) G0.1 G0.2.1 dX12_workOut_122 (by decide) ?_
              obtain ⟨x_173, ex_173⟩ : ∃ y : Int32, y = v_3 + 1 := ⟨_, rfl⟩
              first | have tx_173 := ti_add ex_173 (by omega -splitDisjunctions) (by omega -splitDisjunctions) | skip
              refine lv_iinc (v := x_173) (lv' := [(5, .int x_173), (4, .int v_4), (0, .ref u), (1, .int a), (2, .int b), (3, .int q)]) G0.1 G0.2.1 dX12_workOut_165 hl (k := 0) rfl (show _ + (1 : Int32) = _ from ex_173.symm) (by decide) rfl (fun ls hl => ?_)
              refine lv_goto (tgt := 12) G0.1 G0.2.1 dX12_workOut_168 (by decide) ?_
              exact ih_12 ((2147483647 - x_173.toInt).toNat) (by omega) x_173 v_4 L_j12 f_168 _ _ ls rfl ⟨by omega, by omega⟩ hWF hKP hFK (by first | omega | (intros; omega)) (by first | omega | (intros; omega)) (by have hz : rn (gfn f (G.2 u 6)) (gfn f (G.2 u 7)) 80 (340 * a.toInt + q.toInt - v_3.toInt - 1).toNat (v_3.toInt + 1).toNat v_4.toInt 1 := (by first | (rw [show v_4.toInt = v_4.toInt + 1 by omega]; exact n1 (by omega)) | (rw [show v_4.toInt = v_4.toInt - 1 by omega]; exact n2 (by omega) (by omega) (by omega)) | (rw [show v_4.toInt = v_4.toInt by omega]; exact n9 (by omega)) | exact n9 (by omega)); rw [show (340 * a.toInt + q.toInt - x_173.toInt).toNat = (340 * a.toInt + q.toInt - v_3.toInt - 1).toNat by omega, show x_173.toInt.toNat = (v_3.toInt + 1).toNat by omega]; exact hz) hw (lv_sub hl [0, 1, 2, 3, 4, 5] rfl)
          · skip
            have tc_131 := ti_eq c_131
            refine lv_aload_n G0.1 G0.2.1 dX12_workOut_45 rfl (lv_at hl 2 rfl) ?_
            refine py_get (C := RX12) (T := TX12) (N := 54) (k := 16) (v := .ref (G.2 u 16)) G0 hw in_X12_workOut_X12 rfl hr_82 (by decide) (by decide +kernel) rfl dX12_workOut_46 ?_
            refine lv_iload G0.1 G0.2.1 dX12_workOut_49 (lv_at hl 1 rfl) ?_
            refine lv_aload_n G0.1 G0.2.1 dX12_workOut_51 rfl (lv_at hl 2 rfl) ?_
            refine py_get (C := RX12) (T := TX12) (N := 54) (k := 6) (v := .ref (G.2 u 6)) G0 hw in_X12_workOut_X12 rfl hr_82 (by decide) (by decide +kernel) rfl dX12_workOut_52 ?_
            refine lv_iload G0.1 G0.2.1 dX12_workOut_55 (lv_at hl 0 rfl) ?_
            have rg_174 : vp_in v_3 1700 := ti_in (by omega) (by omega)
            refine py_iald G0 hw ha_84 rg_174 dX12_workOut_57 ?_
            refine lv_topi (fun x_175 ex_175 => ?_)
            have bx_175 := wf_free x_175
            have zx_175 := arz_ld ha_84 ex_175
            refine lv_if_ne (tgt := 71) G0.1 G0.2.1 dX12_workOut_58 (by decide) (fun c_176 => ?_) (fun c_176 => ?_)
            · skip
              have tc_176 := ti_ne c_176
              refine lv_aload_n G0.1 G0.2.1 dX12_workOut_71 rfl (lv_at hl 2 rfl) ?_
              refine py_get (C := RX12) (T := TX12) (N := 54) (k := 15) (v := .ref (G.2 u 15)) G0 hw in_X12_workOut_X12 rfl hr_82 (by decide) (by decide +kernel) rfl dX12_workOut_72 ?_
              refine lv_aload_n G0.1 G0.2.1 dX12_workOut_75 rfl (lv_at hl 2 rfl) ?_
              refine py_get (C := RX12) (T := TX12) (N := 54) (k := 7) (v := .ref (G.2 u 7)) G0 hw in_X12_workOut_X12 rfl hr_82 (by decide) (by decide +kernel) rfl dX12_workOut_76 ?_
              refine lv_iload G0.1 G0.2.1 dX12_workOut_79 (lv_at hl 0 rfl) ?_
              obtain ⟨g_177, ha_178, hi_179⟩ := wf_arr (n := 1700) (lo := (-2147483648)) (hi := 2147483647) hWF (wt12_7 hG Tu) (by decide) (fun _ => rfl)
              have rg_180 : vp_in v_3 1700 := ti_in (by omega) (by omega)
              refine py_iald G0 hw ha_178 rg_180 dX12_workOut_81 ?_
              refine lv_topi (fun x_181 ex_181 => ?_)
              have bx_181 := wf_free x_181
              have zx_181 := arz_ld ha_178 ex_181
              obtain ⟨g_182, ha_183, hi_184⟩ := wf_arr (n := 6) (lo := (-2147483648)) (hi := 2147483647) hWF (wt12_15 hG Tu) (by decide) (fun _ => rfl)
              have rg_185 : vp_in x_181 6 := ti_in (by omega) (by omega)
              refine py_iald G0 hw ha_183 rg_185 dX12_workOut_82 ?_
              refine lv_topi (fun x_186 ex_186 => ?_)
              have bx_186 := wf_free x_186
              have zx_186 := arz_ld ha_183 ex_186
              obtain ⟨g_187, ha_188, hi_189⟩ := wf_arr (n := 80) (lo := (-2147483648)) (hi := 2147483647) hWF (wt12_16 hG Tu) (by decide) (fun _ => rfl)
              have rg_190 : vp_in v_4 80 := ti_in (by omega) (by omega)
              refine py_iast G0 hw ha_188 rg_190 dX12_workOut_83 (fun f_191 H_192 locs h_193 x_194 hw => ?_)
              have hFK := hFK.same ((x_194 _ (hWF _ (by rw [Tu]; decide)).1 (wf_ne Tu (wt12_16 hG Tu) (by decide))).2)
              have hKP := hKP.upd hWF x_194 (wt12_16 hG Tu) (Or.inl (by decide))
              have hi_195 := wf_inu (k := (v_4 : Int32).toNatClampNeg) (x := x_186) hi_189 (wf_free x_186).1 (wf_free x_186).2
              have hWF := wf_upd hWF h_193 x_194 (by rw [(wt12_16 hG Tu)]; exact ⟨_, rfl, hi_195⟩)
              have hr_82 := hr_82.ext x_194 (py_ne_arr hr_82 ha_188)
              have ha_84 := ha_84.ext x_194 (wf_ne (wt12_6 hG Tu) (wt12_16 hG Tu) (by decide))
              have ha_178 := ha_178.ext x_194 (wf_ne (wt12_7 hG Tu) (wt12_16 hG Tu) (by decide))
              have ha_183 := ha_183.ext x_194 (wf_ne (wt12_15 hG Tu) (wt12_16 hG Tu) (by decide))
              obtain ⟨x_196, ex_196⟩ : ∃ y : Int32, y = v_4 + 1 := ⟨_, rfl⟩
              first | have tx_196 := ti_add ex_196 (by omega -splitDisjunctions) (by omega -splitDisjunctions) | skip
              refine lv_iinc (v := x_196) (lv' := [(4, .int x_196), (5, .int v_3), (0, .ref u), (1, .int a), (2, .int b), (3, .int q)]) G0.1 G0.2.1 dX12_workOut_84 hl (k := 1) rfl (show _ + (1 : Int32) = _ from ex_196.symm) (by decide) rfl (fun ls hl => ?_)
              refine lv_goto (tgt := 165) G0.1 G0.2.1 dX12_workOut_87 (by decide) ?_
              obtain ⟨x_197, ex_197⟩ : ∃ y : Int32, y = v_3 + 1 := ⟨_, rfl⟩
              first | have tx_197 := ti_add ex_197 (by omega -splitDisjunctions) (by omega -splitDisjunctions) | skip
              refine lv_iinc (v := x_197) (lv' := [(5, .int x_197), (4, .int x_196), (0, .ref u), (1, .int a), (2, .int b), (3, .int q)]) G0.1 G0.2.1 dX12_workOut_165 hl (k := 1) rfl (show _ + (1 : Int32) = _ from ex_197.symm) (by decide) rfl (fun ls hl => ?_)
              refine lv_goto (tgt := 12) G0.1 G0.2.1 dX12_workOut_168 (by decide) ?_
              exact ih_12 ((2147483647 - x_197.toInt).toNat) (by omega) x_197 x_196 L_j12 f_191 _ _ ls rfl ⟨by omega, by omega⟩ hWF hKP hFK (by first | omega | (intros; omega)) (by first | omega | (intros; omega)) (by have hz : rn (gfn f (G.2 u 6)) (gfn f (G.2 u 7)) 80 (340 * a.toInt + q.toInt - v_3.toInt - 1).toNat (v_3.toInt + 1).toNat x_196.toInt 1 := (by first | (rw [show x_196.toInt = v_4.toInt + 1 by omega]; exact n1 (by omega)) | (rw [show x_196.toInt = v_4.toInt - 1 by omega]; exact n2 (by omega) (by omega) (by omega)) | (rw [show x_196.toInt = v_4.toInt by omega]; exact n9 (by omega)) | exact n9 (by omega)); rw [show (340 * a.toInt + q.toInt - x_197.toInt).toNat = (340 * a.toInt + q.toInt - v_3.toInt - 1).toNat by omega, show x_197.toInt.toNat = (v_3.toInt + 1).toNat by omega]; exact hz) hw (lv_sub hl [0, 1, 2, 3, 4, 5] rfl)
            · skip
              have tc_176 := ti_eq c_176
              refine lv_aload_n G0.1 G0.2.1 dX12_workOut_61 rfl (lv_at hl 2 rfl) ?_
              refine py_get (C := RX12) (T := TX12) (N := 54) (k := 7) (v := .ref (G.2 u 7)) G0 hw in_X12_workOut_X12 rfl hr_82 (by decide) (by decide +kernel) rfl dX12_workOut_62 ?_
              refine lv_iload G0.1 G0.2.1 dX12_workOut_65 (lv_at hl 0 rfl) ?_
              obtain ⟨g_198, ha_199, hi_200⟩ := wf_arr (n := 1700) (lo := (-2147483648)) (hi := 2147483647) hWF (wt12_7 hG Tu) (by decide) (fun _ => rfl)
              have rg_201 : vp_in v_3 1700 := ti_in (by omega) (by omega)
              refine py_iald G0 hw ha_199 rg_201 dX12_workOut_67 ?_
              refine lv_topi (fun x_202 ex_202 => ?_)
              have bx_202 := wf_free x_202
              have zx_202 := arz_ld ha_199 ex_202
              refine lv_goto (tgt := 83) G0.1 G0.2.1 dX12_workOut_68 (by decide) ?_
              obtain ⟨g_203, ha_204, hi_205⟩ := wf_arr (n := 80) (lo := (-2147483648)) (hi := 2147483647) hWF (wt12_16 hG Tu) (by decide) (fun _ => rfl)
              have rg_206 : vp_in v_4 80 := ti_in (by omega) (by omega)
              refine py_iast G0 hw ha_204 rg_206 dX12_workOut_83 (fun f_207 H_208 locs h_209 x_210 hw => ?_)
              have hFK := hFK.same ((x_210 _ (hWF _ (by rw [Tu]; decide)).1 (wf_ne Tu (wt12_16 hG Tu) (by decide))).2)
              have hKP := hKP.upd hWF x_210 (wt12_16 hG Tu) (Or.inl (by decide))
              have hi_211 := wf_inu (k := (v_4 : Int32).toNatClampNeg) (x := x_202) hi_205 (wf_free x_202).1 (wf_free x_202).2
              have hWF := wf_upd hWF h_209 x_210 (by rw [(wt12_16 hG Tu)]; exact ⟨_, rfl, hi_211⟩)
              have hr_82 := hr_82.ext x_210 (py_ne_arr hr_82 ha_204)
              have ha_84 := ha_84.ext x_210 (wf_ne (wt12_6 hG Tu) (wt12_16 hG Tu) (by decide))
              have ha_199 := ha_199.ext x_210 (wf_ne (wt12_7 hG Tu) (wt12_16 hG Tu) (by decide))
              obtain ⟨x_212, ex_212⟩ : ∃ y : Int32, y = v_4 + 1 := ⟨_, rfl⟩
              first | have tx_212 := ti_add ex_212 (by omega -splitDisjunctions) (by omega -splitDisjunctions) | skip
              refine lv_iinc (v := x_212) (lv' := [(4, .int x_212), (5, .int v_3), (0, .ref u), (1, .int a), (2, .int b), (3, .int q)]) G0.1 G0.2.1 dX12_workOut_84 hl (k := 1) rfl (show _ + (1 : Int32) = _ from ex_212.symm) (by decide) rfl (fun ls hl => ?_)
              refine lv_goto (tgt := 165) G0.1 G0.2.1 dX12_workOut_87 (by decide) ?_
              obtain ⟨x_213, ex_213⟩ : ∃ y : Int32, y = v_3 + 1 := ⟨_, rfl⟩
              first | have tx_213 := ti_add ex_213 (by omega -splitDisjunctions) (by omega -splitDisjunctions) | skip
              refine lv_iinc (v := x_213) (lv' := [(5, .int x_213), (4, .int x_212), (0, .ref u), (1, .int a), (2, .int b), (3, .int q)]) G0.1 G0.2.1 dX12_workOut_165 hl (k := 1) rfl (show _ + (1 : Int32) = _ from ex_213.symm) (by decide) rfl (fun ls hl => ?_)
              refine lv_goto (tgt := 12) G0.1 G0.2.1 dX12_workOut_168 (by decide) ?_
              exact ih_12 ((2147483647 - x_213.toInt).toNat) (by omega) x_213 x_212 L_j12 f_207 _ _ ls rfl ⟨by omega, by omega⟩ hWF hKP hFK (by first | omega | (intros; omega)) (by first | omega | (intros; omega)) (by have hz : rn (gfn f (G.2 u 6)) (gfn f (G.2 u 7)) 80 (340 * a.toInt + q.toInt - v_3.toInt - 1).toNat (v_3.toInt + 1).toNat x_212.toInt 1 := (by first | (rw [show x_212.toInt = v_4.toInt + 1 by omega]; exact n1 (by omega)) | (rw [show x_212.toInt = v_4.toInt - 1 by omega]; exact n2 (by omega) (by omega) (by omega)) | (rw [show x_212.toInt = v_4.toInt by omega]; exact n9 (by omega)) | exact n9 (by omega)); rw [show (340 * a.toInt + q.toInt - x_213.toInt).toNat = (340 * a.toInt + q.toInt - v_3.toInt - 1).toNat by omega, show x_213.toInt.toNat = (v_3.toInt + 1).toNat by omega]; exact hz) hw (lv_sub hl [0, 1, 2, 3, 4, 5] rfl)
  exact lo_12 _ x_2 0 L f _ _ ls rfl ⟨by omega, by omega⟩ hWF hKP hFK (by first | omega | (intros; omega)) (by first | omega | (intros; omega)) (by rw [show (340 * a.toInt + q.toInt - x_2.toInt).toNat = (q.toInt - b.toInt).toNat by omega, show x_2.toInt.toNat = (340 * a.toInt + b.toInt).toNat by omega]; exact hq0) hw (lv_sub hl [0, 1, 2, 3, 4, 5] rfl)

def w_X12_worthOf : List Cond := .code yX12_worthOf cX12_worthOf 3 (some .int) :: ([Cond.fieldLink RX12 22 "HeadYearModel" "clauses" "[I", Cond.fieldLink RX12 25 "HeadYearModel" "testFrom" "[I", Cond.fieldLink RX12 28 "HeadYearModel" "sumFrom" "[I", Cond.fieldLink RX12 31 "HeadYearModel" "sumTo" "[I", Cond.methodLink RX12 228 yX12_workOut, Cond.instanceMethod yX12_workOut, Cond.selects RX12 yX12_workOut yX12_workOut, Cond.initialized RX12] ++ (u_ws RX12 TX12 54 ++ (w_X12_workOut ++ ([]))))
theorem in_X12_worthOf_X12 : ∀ w ∈ u_ws RX12 TX12 54, w ∈ w_X12_worthOf := fun _ h => List.mem_cons_of_mem _ (List.mem_append_right _ (List.mem_append_left _ h))
theorem gg_X12_worthOf_X12_workOut : GoodIn w_X12_worthOf w_X12_workOut := goodIn_sub (fun _ h => List.mem_cons_of_mem _ (List.mem_append_right _ (List.mem_append_right _ (List.mem_append_left _ h)))) (by decide +kernel)
theorem g_X12_worthOf_X12_workOut_228 : GoodIn w_X12_worthOf (wsV RX12 228 RX12 yX12_workOut w_X12_workOut) := goodIn_app (goodIn_of _ (by decide +kernel)) gg_X12_worthOf_X12_workOut
set_option maxHeartbeats 4000000 in
set_option maxRecDepth 100000 in
theorem c_X12_worthOf (l : Launch) (E : py_E) (G : wf_G) (L : List Nat) (f : py_F) (sz : Nat) (u : Nat) (a : Int32) (hG : GT G) (hWF : WF E G L f) (Tu : G.1 u = 13) (Ba : (0 ≤ a.toInt ∧ a.toInt ≤ 4)) (hq0 : LV f G u a.toInt) : Met l yX12_worthOf w_X12_worthOf ({ frames := 4, cells := 0, slots := 0, locals := 98 }) (py_Pc E [.ref u, .int a] L f sz) (py_Qi E L f sz (fun _ L1 f1 => WF E G L1 f1 ∧ KP G [49] false f f1 ∧ FK [] f f1 u)) 0 0 (va_A (va_pl L f) sz) := by
  refine Met.ofW (cc := cX12_worthOf) (maxL := 3) (ret := (some .int)) (by decide) rfl ?_
  intro p e s m args below meth c s₁ B hml hv
  obtain ⟨rfl, rfl, hw⟩ := py_start hv
  have G0 : CallFix p m c cX12_worthOf 3 s _ w_X12_worthOf RX12 := ⟨B.exec, B.bytes, hml, findClass_of_methodNamed B.named, atoms_spec (ws := w_X12_worthOf) B.pre⟩
  have hr := B.returns
  have hlk := B.notSynchronized
  have kcm1 : (-1 : Int32).toInt = -1 := rfl
  have kc0 : (0 : Int32).toInt = 0 := rfl
  have kc1 : (1 : Int32).toInt = 1 := rfl
  have kc90 : (90 : Int32).toInt = 90 := rfl
  have hl := lv_entry ([.ref u, .int a]) (n := 3) (Nat.le_of_ble_eq_true rfl)
  rw [lg_entry_eq]
  generalize (lg_sl ([.ref u, .int a]) ++ List.replicate (3 - (lg_sl ([.ref u, .int a])).length) Slot.unset).toArray = ls at hl ⊢
  have hl : lv_has ls 3 [(0, .ref u), (1, .int a)] := hl
  have hFK : FK [] f f u := FK.refl
  have hKP : KP G [49] false f f := KP.refl
  have hLV := hq0
  refine lv_bipush (v := 90) G0.1 G0.2.1 dX12_worthOf_0 (by decide) ?_
  refine lv_iload_n G0.1 G0.2.1 dX12_worthOf_2 rfl (lv_at hl 1 rfl) ?_
  refine lv_imul G0.1 G0.2.1 dX12_worthOf_3 ?_
  refine lv_topi (fun x_1 ex_1 => ?_)
  first | have tx_1 := ti_muld ex_1 kc90 (by omega -splitDisjunctions) (by omega -splitDisjunctions) | skip
  refine lv_istore_n (lv' := [(2, .int x_1), (0, .ref u), (1, .int a)]) G0.1 G0.2.1 dX12_worthOf_4 rfl hl (by decide) rfl (fun ls hl => ?_)
  have lo_5 : ∀ n_5 : Nat, ∀ (v_2 : Int32) (L_j5 : List Nat) (f_j5 : py_F) (H_j5 : Heap) (locs : List Loc) (ls : Array Slot), (2147483647 - v_2.toInt).toNat = n_5 → (0 ≤ v_2.toInt ∧ v_2.toInt ≤ 450) → WF E G L_j5 f_j5 → KP G [49] false f f_j5 → LV f_j5 G u a.toInt → FK [] f f_j5 u → (90 * a.toInt ≤ v_2.toInt) → py_W E (va_A (va_pl L f) s.heap.size) s L_j5 f_j5 H_j5 locs → lv_has ls 3 [(2, .int v_2), (0, .ref u), (1, .int a)] → W p l e (headSpec w_X12_worthOf ({ frames := 4, cells := 0, slots := 0, locals := 98 })).room s m ([.ref u, .int a] : List Value).toArray below meth c H_j5 locs 0 0 (MQ below (py_Qi E L f s.heap.size (fun _ L1 f1 => WF E G L1 f1 ∧ KP G [49] false f f1 ∧ FK [] f f1 u)) ([.ref u, .int a] : List Value).toArray s 0 0 (va_A (va_pl L f) s.heap.size)) (F0 m 5 ls []) := by
    intro n_5
    induction n_5 using Nat.strongRecOn with
    | _ n_5 ih_5 =>
      intro v_2 L_j5 f_j5 H_j5 locs ls hn_5 bv_2 hWF hKP hLV hFK iv0 hw hl
      refine lv_iload_n G0.1 G0.2.1 dX12_worthOf_5 rfl (lv_at hl 0 rfl) ?_
      refine lv_bipush (v := 90) G0.1 G0.2.1 dX12_worthOf_6 (by decide) ?_
      refine lv_iload_n G0.1 G0.2.1 dX12_worthOf_8 rfl (lv_at hl 2 rfl) ?_
      refine lv_imul G0.1 G0.2.1 dX12_worthOf_9 ?_
      refine lv_topi (fun x_3 ex_3 => ?_)
      first | have tx_3 := ti_muld ex_3 kc90 (by omega -splitDisjunctions) (by omega -splitDisjunctions) | skip
      refine lv_aload_n G0.1 G0.2.1 dX12_worthOf_10 rfl (lv_at hl 1 rfl) ?_
      obtain ⟨v_4, v_5, v_6, v_7, v_8, v_9, v_10, v_11, v_12, v_13, v_14, v_15, y_16, v_17, v_18, v_19, v_20, v_21, y_22, v_23, y_24, v_25, hr_38, b_26, b_27, b_28, b_29, b_30, b_31, b_32, b_33, b_34, b_35, b_36, b_37⟩ := wg_12 hWF Tu
      refine py_get (C := RX12) (T := TX12) (N := 54) (k := 9) (v := .ref (G.2 u 9)) G0 hw in_X12_worthOf_X12 rfl hr_38 (by decide) (by decide +kernel) rfl dX12_worthOf_11 ?_
      refine lv_iload_n G0.1 G0.2.1 dX12_worthOf_14 rfl (lv_at hl 2 rfl) ?_
      obtain ⟨g_39, ha_40, hi_41⟩ := wf_arr (n := 5) (lo := 0) (hi := 90) hWF (wt12_9 hG Tu) (by decide) (fun _ => rfl)
      have rg_42 : vp_in a 5 := ti_in (by omega) (by omega)
      refine py_iald G0 hw ha_40 rg_42 dX12_worthOf_15 ?_
      refine lv_topi (fun x_43 ex_43 => ?_)
      have bx_43 := ti_at hi_41 rg_42 ex_43
      have zx_43 := arz_ld ha_40 ex_43
      refine lv_iadd G0.1 G0.2.1 dX12_worthOf_16 ?_
      refine lv_topi (fun x_44 ex_44 => ?_)
      first | have tx_44 := ti_add ex_44 (by omega -splitDisjunctions) (by omega -splitDisjunctions) | skip
      refine lv_icmp_ge (tgt := 79) G0.1 G0.2.1 dX12_worthOf_17 (by decide) (fun c_45 => ?_) (fun c_45 => ?_)
      · skip
        have tc_45 := ti_le c_45
        refine lv_iconst (v := 0) G0.1 G0.2.1 dX12_worthOf_79 (by decide) ?_
        exact py_iret G0 hr rfl hlk hw ⟨hWF, hKP, hFK⟩ dX12_worthOf_80
      · skip
        have tc_45 := ti_nle c_45
        have hco := hLV (v_2.toInt - 90 * a.toInt) (by omega) (by omega)
        rw [show 90 * a.toInt + (v_2.toInt - 90 * a.toInt) = v_2.toInt by omega] at hco
        obtain ⟨co1, co2, co3, co4, co5, co6⟩ := id hco
        refine lv_aload_n G0.1 G0.2.1 dX12_worthOf_20 rfl (lv_at hl 1 rfl) ?_
        refine py_get (C := RX12) (T := TX12) (N := 54) (k := 10) (v := .ref (G.2 u 10)) G0 hw in_X12_worthOf_X12 rfl hr_38 (by decide) (by decide +kernel) rfl dX12_worthOf_21 ?_
        refine lv_iload_n G0.1 G0.2.1 dX12_worthOf_24 rfl (lv_at hl 0 rfl) ?_
        obtain ⟨g_46, ha_47, hi_48⟩ := wf_arr (n := 450) (lo := (-2147483648)) (hi := 2147483647) hWF (wt12_10 hG Tu) (by decide) (fun _ => rfl)
        have rg_49 : vp_in v_2 450 := ti_in (by omega) (by omega)
        refine py_iald G0 hw ha_47 rg_49 dX12_worthOf_25 ?_
        refine lv_topi (fun x_50 ex_50 => ?_)
        have bx_50 := wf_free x_50
        have zx_50 := arz_ld ha_47 ex_50
        refine lv_aload_n G0.1 G0.2.1 dX12_worthOf_26 rfl (lv_at hl 1 rfl) ?_
        refine py_get (C := RX12) (T := TX12) (N := 54) (k := 11) (v := .ref (G.2 u 11)) G0 hw in_X12_worthOf_X12 rfl hr_38 (by decide) (by decide +kernel) rfl dX12_worthOf_27 ?_
        refine lv_iload_n G0.1 G0.2.1 dX12_worthOf_30 rfl (lv_at hl 0 rfl) ?_
        obtain ⟨g_51, ha_52, hi_53⟩ := wf_arr (n := 450) (lo := (-2147483648)) (hi := 2147483647) hWF (wt12_11 hG Tu) (by decide) (fun _ => rfl)
        have rg_54 : vp_in v_2 450 := ti_in (by omega) (by omega)
        refine py_iald G0 hw ha_52 rg_54 dX12_worthOf_31 ?_
        refine lv_topi (fun x_55 ex_55 => ?_)
        have bx_55 := wf_free x_55
        have zx_55 := arz_ld ha_52 ex_55
        refine lv_icmp_eq (tgt := 55) G0.1 G0.2.1 dX12_worthOf_32 (by decide) (fun c_56 => ?_) (fun c_56 => ?_)
        · skip
          have tc_56 := ti_eq c_56
          have zzx_43 := arz_ld ha_40 ex_43
          have hco := hLV (v_2.toInt - 90 * a.toInt) (by omega) (by omega)
          rw [show 90 * a.toInt + (v_2.toInt - 90 * a.toInt) = v_2.toInt by omega] at hco
          obtain ⟨co1, co2, co3, co4, co5, co6⟩ := id hco
          refine lv_aload_n G0.1 G0.2.1 dX12_worthOf_55 rfl (lv_at hl 1 rfl) ?_
          refine lv_iload_n G0.1 G0.2.1 dX12_worthOf_56 rfl (lv_at hl 2 rfl) ?_
          refine lv_aload_n G0.1 G0.2.1 dX12_worthOf_57 rfl (lv_at hl 1 rfl) ?_
          refine py_get (C := RX12) (T := TX12) (N := 54) (k := 11) (v := .ref (G.2 u 11)) G0 hw in_X12_worthOf_X12 rfl hr_38 (by decide) (by decide +kernel) rfl dX12_worthOf_58 ?_
          refine lv_iload_n G0.1 G0.2.1 dX12_worthOf_61 rfl (lv_at hl 0 rfl) ?_
          have rg_57 : vp_in v_2 450 := ti_in (by omega) (by omega)
          refine py_iald G0 hw ha_52 rg_57 dX12_worthOf_62 ?_
          refine lv_topi (fun x_58 ex_58 => ?_)
          have bx_58 := wf_free x_58
          have zx_58 := arz_ld ha_52 ex_58
          refine lv_aload_n G0.1 G0.2.1 dX12_worthOf_63 rfl (lv_at hl 1 rfl) ?_
          refine py_get (C := RX12) (T := TX12) (N := 54) (k := 12) (v := .ref (G.2 u 12)) G0 hw in_X12_worthOf_X12 rfl hr_38 (by decide) (by decide +kernel) rfl dX12_worthOf_64 ?_
          refine lv_iload_n G0.1 G0.2.1 dX12_worthOf_67 rfl (lv_at hl 0 rfl) ?_
          obtain ⟨g_59, ha_60, hi_61⟩ := wf_arr (n := 450) (lo := (-2147483648)) (hi := 2147483647) hWF (wt12_12 hG Tu) (by decide) (fun _ => rfl)
          have rg_62 : vp_in v_2 450 := ti_in (by omega) (by omega)
          refine py_iald G0 hw ha_60 rg_62 dX12_worthOf_68 ?_
          refine lv_topi (fun x_63 ex_63 => ?_)
          have bx_63 := wf_free x_63
          have zx_63 := arz_ld ha_60 ex_63
          refine py_calli hw (va_runV (As := [.int a, .int x_58, .int x_63]) (rest := []) G0 (c_X12_workOut l E G L_j5 f_j5 H_j5.size u a x_58 x_63 hG hWF Tu ⟨by omega, by omega⟩ ⟨by omega, by omega⟩ ⟨by omega, by omega⟩ (show x_58.toInt ≤ x_63.toInt by omega) (by rw [show (x_63.toInt - x_58.toInt).toNat = (arz f_j5 (G.2 u 12) v_2.toInt - arz f_j5 (G.2 u 11) v_2.toInt).toNat by omega, show (340 * a.toInt + x_58.toInt).toNat = (340 * a.toInt + arz f_j5 (G.2 u 11) v_2.toInt).toNat by omega]; exact co6)) (cwV 3 G0.2.2.2.2 g_X12_worthOf_X12_workOut_228 rfl rfl rfl (by decide +kernel) ⟨(Nat.le_of_ble_eq_true rfl), (Nat.le_of_ble_eq_true rfl)⟩) (py_preV hw (C := RX12) (T := TX12) (N := 54) rfl hr_38) rfl rfl hl.1 rfl (lv_room (Nat.le_of_ble_eq_true rfl)) dX12_worthOf_69 ⟨(Nat.le_of_ble_eq_true rfl), (Nat.le_of_ble_eq_true rfl)⟩) (fun r_68 L_64 f_65 H_66 locs hp_67 hw => ?_)
          obtain ⟨hWF, kp_69, fk_70⟩ := hp_67
          have hLV := hLV.kp hG Tu kp_69 (LK.of (by decide))
          have hFK := hFK.trans fk_70 (by decide)
          have hKP := hKP.trans kp_69 (by decide) (by decide)
          have hr_38 := kp_at kp_69 hWF Tu (by decide) (by decide) (by decide) hr_38
          have ha_40 := kp_at kp_69 hWF (wt12_9 hG Tu) (by decide) (by decide) (by decide) ha_40
          have ha_47 := kp_at kp_69 hWF (wt12_10 hG Tu) (by decide) (by decide) (by decide) ha_47
          have ha_52 := kp_at kp_69 hWF (wt12_11 hG Tu) (by decide) (by decide) (by decide) ha_52
          have ha_60 := kp_at kp_69 hWF (wt12_12 hG Tu) (by decide) (by decide) (by decide) ha_60
          have br_68 := wf_free r_68
          exact py_iret G0 hr rfl hlk hw ⟨hWF, hKP, hFK⟩ dX12_worthOf_72
        · skip
          have tc_56 := ti_ne c_56
          refine lv_aload_n G0.1 G0.2.1 dX12_worthOf_35 rfl (lv_at hl 1 rfl) ?_
          refine lv_iload_n G0.1 G0.2.1 dX12_worthOf_36 rfl (lv_at hl 2 rfl) ?_
          refine lv_aload_n G0.1 G0.2.1 dX12_worthOf_37 rfl (lv_at hl 1 rfl) ?_
          refine py_get (C := RX12) (T := TX12) (N := 54) (k := 10) (v := .ref (G.2 u 10)) G0 hw in_X12_worthOf_X12 rfl hr_38 (by decide) (by decide +kernel) rfl dX12_worthOf_38 ?_
          refine lv_iload_n G0.1 G0.2.1 dX12_worthOf_41 rfl (lv_at hl 0 rfl) ?_
          have rg_71 : vp_in v_2 450 := ti_in (by omega) (by omega)
          refine py_iald G0 hw ha_47 rg_71 dX12_worthOf_42 ?_
          refine lv_topi (fun x_72 ex_72 => ?_)
          have bx_72 := wf_free x_72
          have zx_72 := arz_ld ha_47 ex_72
          refine lv_aload_n G0.1 G0.2.1 dX12_worthOf_43 rfl (lv_at hl 1 rfl) ?_
          refine py_get (C := RX12) (T := TX12) (N := 54) (k := 11) (v := .ref (G.2 u 11)) G0 hw in_X12_worthOf_X12 rfl hr_38 (by decide) (by decide +kernel) rfl dX12_worthOf_44 ?_
          refine lv_iload_n G0.1 G0.2.1 dX12_worthOf_47 rfl (lv_at hl 0 rfl) ?_
          have rg_73 : vp_in v_2 450 := ti_in (by omega) (by omega)
          refine py_iald G0 hw ha_52 rg_73 dX12_worthOf_48 ?_
          refine lv_topi (fun x_74 ex_74 => ?_)
          have bx_74 := wf_free x_74
          have zx_74 := arz_ld ha_52 ex_74
          refine py_calli hw (va_runV (As := [.int a, .int x_72, .int x_74]) (rest := []) G0 (c_X12_workOut l E G L_j5 f_j5 H_j5.size u a x_72 x_74 hG hWF Tu ⟨by omega, by omega⟩ ⟨by omega, by omega⟩ ⟨by omega, by omega⟩ (show x_72.toInt ≤ x_74.toInt by omega) (by rw [show (x_74.toInt - x_72.toInt).toNat = (arz f_j5 (G.2 u 11) v_2.toInt - arz f_j5 (G.2 u 10) v_2.toInt).toNat by omega, show (340 * a.toInt + x_72.toInt).toNat = (340 * a.toInt + arz f_j5 (G.2 u 10) v_2.toInt).toNat by omega]; exact (co5.resolve_left (by omega)))) (cwV 3 G0.2.2.2.2 g_X12_worthOf_X12_workOut_228 rfl rfl rfl (by decide +kernel) ⟨(Nat.le_of_ble_eq_true rfl), (Nat.le_of_ble_eq_true rfl)⟩) (py_preV hw (C := RX12) (T := TX12) (N := 54) rfl hr_38) rfl rfl hl.1 rfl (lv_room (Nat.le_of_ble_eq_true rfl)) dX12_worthOf_49 ⟨(Nat.le_of_ble_eq_true rfl), (Nat.le_of_ble_eq_true rfl)⟩) (fun r_79 L_75 f_76 H_77 locs hp_78 hw => ?_)
          obtain ⟨hWF, kp_80, fk_81⟩ := hp_78
          have hLV := hLV.kp hG Tu kp_80 (LK.of (by decide))
          have hFK := hFK.trans fk_81 (by decide)
          have hKP := hKP.trans kp_80 (by decide) (by decide)
          have hr_38 := kp_at kp_80 hWF Tu (by decide) (by decide) (by decide) hr_38
          have ha_40 := kp_at kp_80 hWF (wt12_9 hG Tu) (by decide) (by decide) (by decide) ha_40
          have ha_47 := kp_at kp_80 hWF (wt12_10 hG Tu) (by decide) (by decide) (by decide) ha_47
          have ha_52 := kp_at kp_80 hWF (wt12_11 hG Tu) (by decide) (by decide) (by decide) ha_52
          have br_79 := wf_free r_79
          refine lv_if_eq (tgt := 73) G0.1 G0.2.1 dX12_worthOf_52 (by decide) (fun c_82 => ?_) (fun c_82 => ?_)
          · skip
            have tc_82 := ti_eq c_82
            obtain ⟨x_83, ex_83⟩ : ∃ y : Int32, y = v_2 + 1 := ⟨_, rfl⟩
            first | have tx_83 := ti_add ex_83 (by omega -splitDisjunctions) (by omega -splitDisjunctions) | skip
            refine lv_iinc (v := x_83) (lv' := [(2, .int x_83), (0, .ref u), (1, .int a)]) G0.1 G0.2.1 dX12_worthOf_73 hl (k := 0) rfl (show _ + (1 : Int32) = _ from ex_83.symm) (by decide) rfl (fun ls hl => ?_)
            refine lv_goto (tgt := 5) G0.1 G0.2.1 dX12_worthOf_76 (by decide) ?_
            exact ih_5 ((2147483647 - x_83.toInt).toNat) (by omega) x_83 L_75 f_76 _ _ ls rfl ⟨by omega, by omega⟩ hWF hKP hLV hFK (by first | omega | (intros; omega)) hw (lv_sub hl [0, 1, 2] rfl)
          · skip
            have tc_82 := ti_ne c_82
            have zzx_43 := arz_ld ha_40 ex_43
            have hco := hLV (v_2.toInt - 90 * a.toInt) (by omega) (by omega)
            rw [show 90 * a.toInt + (v_2.toInt - 90 * a.toInt) = v_2.toInt by omega] at hco
            obtain ⟨co1, co2, co3, co4, co5, co6⟩ := id hco
            refine lv_aload_n G0.1 G0.2.1 dX12_worthOf_55 rfl (lv_at hl 1 rfl) ?_
            refine lv_iload_n G0.1 G0.2.1 dX12_worthOf_56 rfl (lv_at hl 2 rfl) ?_
            refine lv_aload_n G0.1 G0.2.1 dX12_worthOf_57 rfl (lv_at hl 1 rfl) ?_
            refine py_get (C := RX12) (T := TX12) (N := 54) (k := 11) (v := .ref (G.2 u 11)) G0 hw in_X12_worthOf_X12 rfl hr_38 (by decide) (by decide +kernel) rfl dX12_worthOf_58 ?_
            refine lv_iload_n G0.1 G0.2.1 dX12_worthOf_61 rfl (lv_at hl 0 rfl) ?_
            have rg_84 : vp_in v_2 450 := ti_in (by omega) (by omega)
            refine py_iald G0 hw ha_52 rg_84 dX12_worthOf_62 ?_
            refine lv_topi (fun x_85 ex_85 => ?_)
            have bx_85 := wf_free x_85
            have zx_85 := arz_ld ha_52 ex_85
            refine lv_aload_n G0.1 G0.2.1 dX12_worthOf_63 rfl (lv_at hl 1 rfl) ?_
            refine py_get (C := RX12) (T := TX12) (N := 54) (k := 12) (v := .ref (G.2 u 12)) G0 hw in_X12_worthOf_X12 rfl hr_38 (by decide) (by decide +kernel) rfl dX12_worthOf_64 ?_
            refine lv_iload_n G0.1 G0.2.1 dX12_worthOf_67 rfl (lv_at hl 0 rfl) ?_
            obtain ⟨g_86, ha_87, hi_88⟩ := wf_arr (n := 450) (lo := (-2147483648)) (hi := 2147483647) hWF (wt12_12 hG Tu) (by decide) (fun _ => rfl)
            have rg_89 : vp_in v_2 450 := ti_in (by omega) (by omega)
            refine py_iald G0 hw ha_87 rg_89 dX12_worthOf_68 ?_
            refine lv_topi (fun x_90 ex_90 => ?_)
            have bx_90 := wf_free x_90
            have zx_90 := arz_ld ha_87 ex_90
            refine py_calli hw (va_runV (As := [.int a, .int x_85, .int x_90]) (rest := []) G0 (c_X12_workOut l E G L_75 f_76 H_77.size u a x_85 x_90 hG hWF Tu ⟨by omega, by omega⟩ ⟨by omega, by omega⟩ ⟨by omega, by omega⟩ (show x_85.toInt ≤ x_90.toInt by omega) (by rw [show (x_90.toInt - x_85.toInt).toNat = (arz f_76 (G.2 u 12) v_2.toInt - arz f_76 (G.2 u 11) v_2.toInt).toNat by omega, show (340 * a.toInt + x_85.toInt).toNat = (340 * a.toInt + arz f_76 (G.2 u 11) v_2.toInt).toNat by omega]; exact co6)) (cwV 3 G0.2.2.2.2 g_X12_worthOf_X12_workOut_228 rfl rfl rfl (by decide +kernel) ⟨(Nat.le_of_ble_eq_true rfl), (Nat.le_of_ble_eq_true rfl)⟩) (py_preV hw (C := RX12) (T := TX12) (N := 54) rfl hr_38) rfl rfl hl.1 rfl (lv_room (Nat.le_of_ble_eq_true rfl)) dX12_worthOf_69 ⟨(Nat.le_of_ble_eq_true rfl), (Nat.le_of_ble_eq_true rfl)⟩) (fun r_95 L_91 f_92 H_93 locs hp_94 hw => ?_)
            obtain ⟨hWF, kp_96, fk_97⟩ := hp_94
            have hLV := hLV.kp hG Tu kp_96 (LK.of (by decide))
            have hFK := hFK.trans fk_97 (by decide)
            have hKP := hKP.trans kp_96 (by decide) (by decide)
            have hr_38 := kp_at kp_96 hWF Tu (by decide) (by decide) (by decide) hr_38
            have ha_40 := kp_at kp_96 hWF (wt12_9 hG Tu) (by decide) (by decide) (by decide) ha_40
            have ha_47 := kp_at kp_96 hWF (wt12_10 hG Tu) (by decide) (by decide) (by decide) ha_47
            have ha_52 := kp_at kp_96 hWF (wt12_11 hG Tu) (by decide) (by decide) (by decide) ha_52
            have ha_87 := kp_at kp_96 hWF (wt12_12 hG Tu) (by decide) (by decide) (by decide) ha_87
            have br_95 := wf_free r_95
            exact py_iret G0 hr rfl hlk hw ⟨hWF, hKP, hFK⟩ dX12_worthOf_72
  exact lo_5 _ x_1 L f _ _ ls rfl ⟨by omega, by omega⟩ hWF hKP hLV hFK (by first | omega | (intros; omega)) hw (lv_sub hl [0, 1, 2] rfl)

def w_X12_worthBy : List Cond := .code yX12_worthBy cX12_worthBy 8 (some .int) :: ([Cond.fieldLink RX12 34 "HeadYearModel" "letters" "[I", Cond.methodLink RX12 365 yX12_worthOf, Cond.instanceMethod yX12_worthOf, Cond.selects RX12 yX12_worthOf yX12_worthOf, Cond.initialized RX12, Cond.methodLink RX12 339 Lib.Math.min.name, Cond.static Lib.Math.min.name, Cond.initialized "java/lang/Math", Cond.code Lib.Math.min.name Lib.Math.min.code 2 (some .int), Cond.methodLink RX12 328 Lib.Math.max.name, Cond.static Lib.Math.max.name, Cond.code Lib.Math.max.name Lib.Math.max.code 2 (some .int)] ++ (u_ws RX12 TX12 54 ++ (w_X12_worthOf ++ ([]))))
theorem in_X12_worthBy_X12 : ∀ w ∈ u_ws RX12 TX12 54, w ∈ w_X12_worthBy := fun _ h => List.mem_cons_of_mem _ (List.mem_append_right _ (List.mem_append_left _ h))
theorem gg_X12_worthBy_X12_worthOf : GoodIn w_X12_worthBy w_X12_worthOf := goodIn_sub (fun _ h => List.mem_cons_of_mem _ (List.mem_append_right _ (List.mem_append_right _ (List.mem_append_left _ h)))) (by decide +kernel)
theorem g_X12_worthBy_X12_worthOf_365 : GoodIn w_X12_worthBy (wsV RX12 365 RX12 yX12_worthOf w_X12_worthOf) := goodIn_app (goodIn_of _ (by decide +kernel)) gg_X12_worthBy_X12_worthOf
set_option maxHeartbeats 4000000 in
set_option maxRecDepth 100000 in
theorem c_X12_worthBy (l : Launch) (E : py_E) (G : wf_G) (L : List Nat) (f : py_F) (sz : Nat) (u : Nat) (a : Int32) (b : Int32) (q : Int32) (d : Int32) (v : Int32) (w : Int32) (y : Int32) (hG : GT G) (hWF : WF E G L f) (Tu : G.1 u = 13) (Ba : ((-1) ≤ a.toInt ∧ a.toInt ≤ 3)) (hq0 : a.toInt ≠ -1 → LV f G u a.toInt) : Met l yX12_worthBy w_X12_worthBy ({ frames := 5, cells := 0, slots := 0, locals := 120 }) (py_Pc E [.ref u, .int a, .int b, .int q, .int d, .int v, .int w, .int y] L f sz) (py_Qi E L f sz (fun r L1 f1 => ((-9) ≤ r.toInt ∧ r.toInt ≤ 9) ∧ WF E G L1 f1 ∧ KP G [48, 49] false f f1 ∧ FK [] f f1 u)) 0 0 (va_A (va_pl L f) sz) := by
  refine Met.ofW (cc := cX12_worthBy) (maxL := 8) (ret := (some .int)) (by decide) rfl ?_
  intro p e s m args below meth c s₁ B hml hv
  obtain ⟨rfl, rfl, hw⟩ := py_start hv
  have G0 : CallFix p m c cX12_worthBy 8 s _ w_X12_worthBy RX12 := ⟨B.exec, B.bytes, hml, findClass_of_methodNamed B.named, atoms_spec (ws := w_X12_worthBy) B.pre⟩
  have hr := B.returns
  have hlk := B.notSynchronized
  have kcm9 : (-9 : Int32).toInt = -9 := rfl
  have kcm1 : (-1 : Int32).toInt = -1 := rfl
  have kc0 : (0 : Int32).toInt = 0 := rfl
  have kc1 : (1 : Int32).toInt = 1 := rfl
  have kc2 : (2 : Int32).toInt = 2 := rfl
  have kc3 : (3 : Int32).toInt = 3 := rfl
  have kc4 : (4 : Int32).toInt = 4 := rfl
  have kc5 : (5 : Int32).toInt = 5 := rfl
  have kc9 : (9 : Int32).toInt = 9 := rfl
  have hl := lv_entry ([.ref u, .int a, .int b, .int q, .int d, .int v, .int w, .int y]) (n := 8) (Nat.le_of_ble_eq_true rfl)
  rw [lg_entry_eq]
  generalize (lg_sl ([.ref u, .int a, .int b, .int q, .int d, .int v, .int w, .int y]) ++ List.replicate (8 - (lg_sl ([.ref u, .int a, .int b, .int q, .int d, .int v, .int w, .int y])).length) Slot.unset).toArray = ls at hl ⊢
  have hl : lv_has ls 8 [(0, .ref u), (1, .int a), (2, .int b), (3, .int q), (4, .int d), (5, .int v), (6, .int w), (7, .int y)] := hl
  have hFK : FK [] f f u := FK.refl
  have hKP : KP G [48, 49] false f f := KP.refl
  have hLW := hq0
  refine lv_iload_n G0.1 G0.2.1 dX12_worthBy_0 rfl (lv_at hl 1 rfl) ?_
  refine lv_iconst (v := (-1)) G0.1 G0.2.1 dX12_worthBy_1 (by decide) ?_
  refine lv_icmp_ne (tgt := 19) G0.1 G0.2.1 dX12_worthBy_2 (by decide) (fun c_1 => ?_) (fun c_1 => ?_)
  · skip
    have tc_1 := ti_ne c_1
    refine lv_aload_n G0.1 G0.2.1 dX12_worthBy_19 rfl (lv_at hl 0 rfl) ?_
    obtain ⟨v_2, v_3, v_4, v_5, v_6, v_7, v_8, v_9, v_10, v_11, v_12, v_13, y_14, v_15, v_16, v_17, v_18, v_19, y_20, v_21, y_22, v_23, hr_36, b_24, b_25, b_26, b_27, b_28, b_29, b_30, b_31, b_32, b_33, b_34, b_35⟩ := wg_12 hWF Tu
    refine py_get (C := RX12) (T := TX12) (N := 54) (k := 15) (v := .ref (G.2 u 15)) G0 hw in_X12_worthBy_X12 rfl hr_36 (by decide) (by decide +kernel) rfl dX12_worthBy_20 ?_
    refine lv_iconst (v := 0) G0.1 G0.2.1 dX12_worthBy_23 (by decide) ?_
    refine lv_iload_n G0.1 G0.2.1 dX12_worthBy_24 rfl (lv_at hl 2 rfl) ?_
    obtain ⟨g_37, ha_38, hi_39⟩ := wf_arr (n := 6) (lo := (-2147483648)) (hi := 2147483647) hWF (wt12_15 hG Tu) (by decide) (fun _ => rfl)
    have rg_40 : vp_in 0 6 := ti_in (by omega) (by omega)
    refine py_iast G0 hw ha_38 rg_40 dX12_worthBy_25 (fun f_41 H_42 locs h_43 x_44 hw => ?_)
    have hLW := fun hy => (hLW hy).kp hG Tu (KP.refl.upd hWF x_44 (wt12_15 hG Tu) (Or.inl (by decide)) : KP G [48] false f f_41) (LK.of (by decide))
    have hFK := hFK.same ((x_44 _ (hWF _ (by rw [Tu]; decide)).1 (wf_ne Tu (wt12_15 hG Tu) (by decide))).2)
    have hKP := hKP.upd hWF x_44 (wt12_15 hG Tu) (Or.inl (by decide))
    have hi_45 := wf_inu (k := (0 : Int32).toNatClampNeg) (x := b) hi_39 (wf_free b).1 (wf_free b).2
    have hWF := wf_upd hWF h_43 x_44 (by rw [(wt12_15 hG Tu)]; exact ⟨_, rfl, hi_45⟩)
    have hr_36 := hr_36.ext x_44 (py_ne_arr hr_36 ha_38)
    refine lv_aload_n G0.1 G0.2.1 dX12_worthBy_26 rfl (lv_at hl 0 rfl) ?_
    refine py_get (C := RX12) (T := TX12) (N := 54) (k := 15) (v := .ref (G.2 u 15)) G0 hw in_X12_worthBy_X12 rfl hr_36 (by decide) (by decide +kernel) rfl dX12_worthBy_27 ?_
    refine lv_iconst (v := 1) G0.1 G0.2.1 dX12_worthBy_30 (by decide) ?_
    refine lv_iload_n G0.1 G0.2.1 dX12_worthBy_31 rfl (lv_at hl 3 rfl) ?_
    have rg_46 : vp_in 1 6 := ti_in (by omega) (by omega)
    refine py_iast G0 hw h_43 rg_46 dX12_worthBy_32 (fun f_47 H_48 locs h_49 x_50 hw => ?_)
    have hLW := fun hy => (hLW hy).kp hG Tu (KP.refl.upd hWF x_50 (wt12_15 hG Tu) (Or.inl (by decide)) : KP G [48] false f_41 f_47) (LK.of (by decide))
    have hFK := hFK.same ((x_50 _ (hWF _ (by rw [Tu]; decide)).1 (wf_ne Tu (wt12_15 hG Tu) (by decide))).2)
    have hKP := hKP.upd hWF x_50 (wt12_15 hG Tu) (Or.inl (by decide))
    have hi_51 := wf_inu (k := (1 : Int32).toNatClampNeg) (x := q) hi_45 (wf_free q).1 (wf_free q).2
    have hWF := wf_upd hWF h_49 x_50 (by rw [(wt12_15 hG Tu)]; exact ⟨_, rfl, hi_51⟩)
    have hr_36 := hr_36.ext x_50 (py_ne_arr hr_36 h_43)
    refine lv_aload_n G0.1 G0.2.1 dX12_worthBy_33 rfl (lv_at hl 0 rfl) ?_
    refine py_get (C := RX12) (T := TX12) (N := 54) (k := 15) (v := .ref (G.2 u 15)) G0 hw in_X12_worthBy_X12 rfl hr_36 (by decide) (by decide +kernel) rfl dX12_worthBy_34 ?_
    refine lv_iconst (v := 2) G0.1 G0.2.1 dX12_worthBy_37 (by decide) ?_
    refine lv_iload G0.1 G0.2.1 dX12_worthBy_38 (lv_at hl 4 rfl) ?_
    have rg_52 : vp_in 2 6 := ti_in (by omega) (by omega)
    refine py_iast G0 hw h_49 rg_52 dX12_worthBy_40 (fun f_53 H_54 locs h_55 x_56 hw => ?_)
    have hLW := fun hy => (hLW hy).kp hG Tu (KP.refl.upd hWF x_56 (wt12_15 hG Tu) (Or.inl (by decide)) : KP G [48] false f_47 f_53) (LK.of (by decide))
    have hFK := hFK.same ((x_56 _ (hWF _ (by rw [Tu]; decide)).1 (wf_ne Tu (wt12_15 hG Tu) (by decide))).2)
    have hKP := hKP.upd hWF x_56 (wt12_15 hG Tu) (Or.inl (by decide))
    have hi_57 := wf_inu (k := (2 : Int32).toNatClampNeg) (x := d) hi_51 (wf_free d).1 (wf_free d).2
    have hWF := wf_upd hWF h_55 x_56 (by rw [(wt12_15 hG Tu)]; exact ⟨_, rfl, hi_57⟩)
    have hr_36 := hr_36.ext x_56 (py_ne_arr hr_36 h_49)
    refine lv_aload_n G0.1 G0.2.1 dX12_worthBy_41 rfl (lv_at hl 0 rfl) ?_
    refine py_get (C := RX12) (T := TX12) (N := 54) (k := 15) (v := .ref (G.2 u 15)) G0 hw in_X12_worthBy_X12 rfl hr_36 (by decide) (by decide +kernel) rfl dX12_worthBy_42 ?_
    refine lv_iconst (v := 3) G0.1 G0.2.1 dX12_worthBy_45 (by decide) ?_
    refine lv_iload G0.1 G0.2.1 dX12_worthBy_46 (lv_at hl 5 rfl) ?_
    have rg_58 : vp_in 3 6 := ti_in (by omega) (by omega)
    refine py_iast G0 hw h_55 rg_58 dX12_worthBy_48 (fun f_59 H_60 locs h_61 x_62 hw => ?_)
    have hLW := fun hy => (hLW hy).kp hG Tu (KP.refl.upd hWF x_62 (wt12_15 hG Tu) (Or.inl (by decide)) : KP G [48] false f_53 f_59) (LK.of (by decide))
    have hFK := hFK.same ((x_62 _ (hWF _ (by rw [Tu]; decide)).1 (wf_ne Tu (wt12_15 hG Tu) (by decide))).2)
    have hKP := hKP.upd hWF x_62 (wt12_15 hG Tu) (Or.inl (by decide))
    have hi_63 := wf_inu (k := (3 : Int32).toNatClampNeg) (x := v) hi_57 (wf_free v).1 (wf_free v).2
    have hWF := wf_upd hWF h_61 x_62 (by rw [(wt12_15 hG Tu)]; exact ⟨_, rfl, hi_63⟩)
    have hr_36 := hr_36.ext x_62 (py_ne_arr hr_36 h_55)
    refine lv_aload_n G0.1 G0.2.1 dX12_worthBy_49 rfl (lv_at hl 0 rfl) ?_
    refine py_get (C := RX12) (T := TX12) (N := 54) (k := 15) (v := .ref (G.2 u 15)) G0 hw in_X12_worthBy_X12 rfl hr_36 (by decide) (by decide +kernel) rfl dX12_worthBy_50 ?_
    refine lv_iconst (v := 4) G0.1 G0.2.1 dX12_worthBy_53 (by decide) ?_
    refine lv_iload G0.1 G0.2.1 dX12_worthBy_54 (lv_at hl 6 rfl) ?_
    have rg_64 : vp_in 4 6 := ti_in (by omega) (by omega)
    refine py_iast G0 hw h_61 rg_64 dX12_worthBy_56 (fun f_65 H_66 locs h_67 x_68 hw => ?_)
    have hLW := fun hy => (hLW hy).kp hG Tu (KP.refl.upd hWF x_68 (wt12_15 hG Tu) (Or.inl (by decide)) : KP G [48] false f_59 f_65) (LK.of (by decide))
    have hFK := hFK.same ((x_68 _ (hWF _ (by rw [Tu]; decide)).1 (wf_ne Tu (wt12_15 hG Tu) (by decide))).2)
    have hKP := hKP.upd hWF x_68 (wt12_15 hG Tu) (Or.inl (by decide))
    have hi_69 := wf_inu (k := (4 : Int32).toNatClampNeg) (x := w) hi_63 (wf_free w).1 (wf_free w).2
    have hWF := wf_upd hWF h_67 x_68 (by rw [(wt12_15 hG Tu)]; exact ⟨_, rfl, hi_69⟩)
    have hr_36 := hr_36.ext x_68 (py_ne_arr hr_36 h_61)
    refine lv_aload_n G0.1 G0.2.1 dX12_worthBy_57 rfl (lv_at hl 0 rfl) ?_
    refine py_get (C := RX12) (T := TX12) (N := 54) (k := 15) (v := .ref (G.2 u 15)) G0 hw in_X12_worthBy_X12 rfl hr_36 (by decide) (by decide +kernel) rfl dX12_worthBy_58 ?_
    refine lv_iconst (v := 5) G0.1 G0.2.1 dX12_worthBy_61 (by decide) ?_
    refine lv_iload G0.1 G0.2.1 dX12_worthBy_62 (lv_at hl 7 rfl) ?_
    have rg_70 : vp_in 5 6 := ti_in (by omega) (by omega)
    refine py_iast G0 hw h_67 rg_70 dX12_worthBy_64 (fun f_71 H_72 locs h_73 x_74 hw => ?_)
    have hLW := fun hy => (hLW hy).kp hG Tu (KP.refl.upd hWF x_74 (wt12_15 hG Tu) (Or.inl (by decide)) : KP G [48] false f_65 f_71) (LK.of (by decide))
    have hFK := hFK.same ((x_74 _ (hWF _ (by rw [Tu]; decide)).1 (wf_ne Tu (wt12_15 hG Tu) (by decide))).2)
    have hKP := hKP.upd hWF x_74 (wt12_15 hG Tu) (Or.inl (by decide))
    have hi_75 := wf_inu (k := (5 : Int32).toNatClampNeg) (x := y) hi_69 (wf_free y).1 (wf_free y).2
    have hWF := wf_upd hWF h_73 x_74 (by rw [(wt12_15 hG Tu)]; exact ⟨_, rfl, hi_75⟩)
    have hr_36 := hr_36.ext x_74 (py_ne_arr hr_36 h_67)
    refine lv_bipush (v := (-9)) G0.1 G0.2.1 dX12_worthBy_65 (by decide) ?_
    refine lv_bipush (v := 9) G0.1 G0.2.1 dX12_worthBy_67 (by decide) ?_
    refine lv_aload_n G0.1 G0.2.1 dX12_worthBy_69 rfl (lv_at hl 0 rfl) ?_
    refine lv_iload_n G0.1 G0.2.1 dX12_worthBy_70 rfl (lv_at hl 1 rfl) ?_
    refine py_calli hw (va_runV (As := [.int a]) (rest := [.int 9, .int (-9)]) G0 (c_X12_worthOf l E G L f_71 H_72.size u a hG hWF Tu ⟨by omega, by omega⟩ (hLW (by omega))) (cwV 1 G0.2.2.2.2 g_X12_worthBy_X12_worthOf_365 rfl rfl rfl (by decide +kernel) ⟨(Nat.le_of_ble_eq_true rfl), (Nat.le_of_ble_eq_true rfl)⟩) (py_preV hw (C := RX12) (T := TX12) (N := 54) rfl hr_36) rfl rfl hl.1 rfl (lv_room (Nat.le_of_ble_eq_true rfl)) dX12_worthBy_71 ⟨(Nat.le_of_ble_eq_true rfl), (Nat.le_of_ble_eq_true rfl)⟩) (fun r_80 L_76 f_77 H_78 locs hp_79 hw => ?_)
    obtain ⟨hWF, kp_81, fk_82⟩ := hp_79
    have hLW := fun hy => (hLW hy).kp hG Tu kp_81 (LK.of (by decide))
    have hFK := hFK.trans fk_82 (by decide)
    have hKP := hKP.trans kp_81 (by decide) (by decide)
    have hr_36 := kp_at kp_81 hWF Tu (by decide) (by decide) (by decide) hr_36
    have h_73 := kp_at kp_81 hWF (wt12_15 hG Tu) (by decide) (by decide) (by decide) h_73
    have br_80 := wf_free r_80
    refine va_mmin G0.1 G0.2.1 (by rw [G0.2.2.1, hl.1]) G0.2.2.2.1 (G0.2.2.2.2 (Cond.methodLink RX12 339 Lib.Math.min.name) (by decide +kernel)) (G0.2.2.2.2 (Cond.static Lib.Math.min.name) (by decide +kernel)) (G0.2.2.2.2 (Cond.initialized "java/lang/Math") (by decide +kernel)) (G0.2.2.2.2 (Cond.code Lib.Math.min.name Lib.Math.min.code 2 (some .int)) (by decide +kernel)) (Nat.le_of_ble_eq_true rfl) (Nat.le_of_ble_eq_true rfl) (Nat.le_of_ble_eq_true rfl) (Nat.le_of_ble_eq_true rfl) dX12_worthBy_74 ?_
    refine lv_topi (fun x_83 ex_83 => ?_)
    have tx_83 := ti_min ex_83
    refine va_mmax G0.1 G0.2.1 (by rw [G0.2.2.1, hl.1]) G0.2.2.2.1 (G0.2.2.2.2 (Cond.methodLink RX12 328 Lib.Math.max.name) (by decide +kernel)) (G0.2.2.2.2 (Cond.static Lib.Math.max.name) (by decide +kernel)) (G0.2.2.2.2 (Cond.initialized "java/lang/Math") (by decide +kernel)) (G0.2.2.2.2 (Cond.code Lib.Math.max.name Lib.Math.max.code 2 (some .int)) (by decide +kernel)) (Nat.le_of_ble_eq_true rfl) (Nat.le_of_ble_eq_true rfl) (Nat.le_of_ble_eq_true rfl) (Nat.le_of_ble_eq_true rfl) dX12_worthBy_77 ?_
    refine lv_topi (fun x_84 ex_84 => ?_)
    have tx_84 := ti_max ex_84
    exact py_iret G0 hr rfl hlk hw ⟨⟨by omega, by omega⟩, hWF, hKP, hFK⟩ dX12_worthBy_80
  · skip
    have tc_1 := ti_eq c_1
    refine lv_bipush (v := (-9)) G0.1 G0.2.1 dX12_worthBy_5 (by decide) ?_
    refine lv_bipush (v := 9) G0.1 G0.2.1 dX12_worthBy_7 (by decide) ?_
    refine lv_iload_n G0.1 G0.2.1 dX12_worthBy_9 rfl (lv_at hl 2 rfl) ?_
    refine lv_iload_n G0.1 G0.2.1 dX12_worthBy_10 rfl (lv_at hl 3 rfl) ?_
    refine lv_isub G0.1 G0.2.1 dX12_worthBy_11 ?_
    refine lv_topi (fun x_85 ex_85 => ?_)
    first | have tx_85 := ti_sub ex_85 (by omega -splitDisjunctions) (by omega -splitDisjunctions) | skip
    refine va_mmin G0.1 G0.2.1 (by rw [G0.2.2.1, hl.1]) G0.2.2.2.1 (G0.2.2.2.2 (Cond.methodLink RX12 339 Lib.Math.min.name) (by decide +kernel)) (G0.2.2.2.2 (Cond.static Lib.Math.min.name) (by decide +kernel)) (G0.2.2.2.2 (Cond.initialized "java/lang/Math") (by decide +kernel)) (G0.2.2.2.2 (Cond.code Lib.Math.min.name Lib.Math.min.code 2 (some .int)) (by decide +kernel)) (Nat.le_of_ble_eq_true rfl) (Nat.le_of_ble_eq_true rfl) (Nat.le_of_ble_eq_true rfl) (Nat.le_of_ble_eq_true rfl) dX12_worthBy_12 ?_
    refine lv_topi (fun x_86 ex_86 => ?_)
    have tx_86 := ti_min ex_86
    refine va_mmax G0.1 G0.2.1 (by rw [G0.2.2.1, hl.1]) G0.2.2.2.1 (G0.2.2.2.2 (Cond.methodLink RX12 328 Lib.Math.max.name) (by decide +kernel)) (G0.2.2.2.2 (Cond.static Lib.Math.max.name) (by decide +kernel)) (G0.2.2.2.2 (Cond.initialized "java/lang/Math") (by decide +kernel)) (G0.2.2.2.2 (Cond.code Lib.Math.max.name Lib.Math.max.code 2 (some .int)) (by decide +kernel)) (Nat.le_of_ble_eq_true rfl) (Nat.le_of_ble_eq_true rfl) (Nat.le_of_ble_eq_true rfl) (Nat.le_of_ble_eq_true rfl) dX12_worthBy_15 ?_
    refine lv_topi (fun x_87 ex_87 => ?_)
    have tx_87 := ti_max ex_87
    exact py_iret G0 hr rfl hlk hw ⟨⟨by omega, by omega⟩, hWF, hKP, hFK⟩ dX12_worthBy_18
