theorem dX12_readValley_0 : decode cX12_readValley 0 = .ok (.aload_n 0, 1) := by decide +kernel
theorem dX12_readValley_1 : decode cX12_readValley 1 = .ok (.iconst 0, 1) := by decide +kernel
theorem dX12_readValley_2 : decode cX12_readValley 2 = .ok (.putfield 127, 3) := by decide +kernel
theorem dX12_readValley_5 : decode cX12_readValley 5 = .ok (.aload_n 0, 1) := by decide +kernel
theorem dX12_readValley_6 : decode cX12_readValley 6 = .ok (.iconst (-1), 1) := by decide +kernel
theorem dX12_readValley_7 : decode cX12_readValley 7 = .ok (.putfield 134, 3) := by decide +kernel
theorem dX12_readValley_10 : decode cX12_readValley 10 = .ok (.aload_n 0, 1) := by decide +kernel
theorem dX12_readValley_11 : decode cX12_readValley 11 = .ok (.iconst 0, 1) := by decide +kernel
theorem dX12_readValley_12 : decode cX12_readValley 12 = .ok (.putfield 264, 3) := by decide +kernel
theorem dX12_readValley_15 : decode cX12_readValley 15 = .ok (.aload_n 0, 1) := by decide +kernel
theorem dX12_readValley_16 : decode cX12_readValley 16 = .ok (.iconst 0, 1) := by decide +kernel
theorem dX12_readValley_17 : decode cX12_readValley 17 = .ok (.putfield 267, 3) := by decide +kernel
theorem dX12_readValley_20 : decode cX12_readValley 20 = .ok (.iconst 1, 1) := by decide +kernel
theorem dX12_readValley_21 : decode cX12_readValley 21 = .ok (.istore_n 1, 1) := by decide +kernel
theorem dX12_readValley_22 : decode cX12_readValley 22 = .ok (.iload_n 1, 1) := by decide +kernel
theorem dX12_readValley_23 : decode cX12_readValley 23 = .ok (.ifCond .eq 59, 3) := by decide +kernel
theorem dX12_readValley_26 : decode cX12_readValley 26 = .ok (.aload_n 0, 1) := by decide +kernel
theorem dX12_readValley_27 : decode cX12_readValley 27 = .ok (.getfield 134, 3) := by decide +kernel
theorem dX12_readValley_30 : decode cX12_readValley 30 = .ok (.iconst (-1), 1) := by decide +kernel
theorem dX12_readValley_31 : decode cX12_readValley 31 = .ok (.if_icmp .ne 51, 3) := by decide +kernel
theorem dX12_readValley_34 : decode cX12_readValley 34 = .ok (.aload_n 0, 1) := by decide +kernel
theorem dX12_readValley_35 : decode cX12_readValley 35 = .ok (.invokevirtual 274, 3) := by decide +kernel
theorem dX12_readValley_38 : decode cX12_readValley 38 = .ok (.aload_n 0, 1) := by decide +kernel
theorem dX12_readValley_39 : decode cX12_readValley 39 = .ok (.getfield 134, 3) := by decide +kernel
theorem dX12_readValley_42 : decode cX12_readValley 42 = .ok (.iconst (-1), 1) := by decide +kernel
theorem dX12_readValley_43 : decode cX12_readValley 43 = .ok (.if_icmp .ne 16, 3) := by decide +kernel
theorem dX12_readValley_46 : decode cX12_readValley 46 = .ok (.aload_n 0, 1) := by decide +kernel
theorem dX12_readValley_47 : decode cX12_readValley 47 = .ok (.invokevirtual 146, 3) := by decide +kernel
theorem dX12_readValley_50 : decode cX12_readValley 50 = .ok (.bipush 59, 2) := by decide +kernel
theorem dX12_readValley_52 : decode cX12_readValley 52 = .ok (.if_icmp .ne 7, 3) := by decide +kernel
theorem dX12_readValley_55 : decode cX12_readValley 55 = .ok (.iconst 1, 1) := by decide +kernel
theorem dX12_readValley_56 : decode cX12_readValley 56 = .ok (.goto 4, 3) := by decide +kernel
theorem dX12_readValley_59 : decode cX12_readValley 59 = .ok (.iconst 0, 1) := by decide +kernel
theorem dX12_readValley_60 : decode cX12_readValley 60 = .ok (.istore_n 1, 1) := by decide +kernel
theorem dX12_readValley_61 : decode cX12_readValley 61 = .ok (.aload_n 0, 1) := by decide +kernel
theorem dX12_readValley_62 : decode cX12_readValley 62 = .ok (.dup, 1) := by decide +kernel
theorem dX12_readValley_63 : decode cX12_readValley 63 = .ok (.getfield 127, 3) := by decide +kernel
theorem dX12_readValley_66 : decode cX12_readValley 66 = .ok (.iload_n 1, 1) := by decide +kernel
theorem dX12_readValley_67 : decode cX12_readValley 67 = .ok (.ifCond .eq 7, 3) := by decide +kernel
theorem dX12_readValley_70 : decode cX12_readValley 70 = .ok (.iconst 1, 1) := by decide +kernel
theorem dX12_readValley_71 : decode cX12_readValley 71 = .ok (.goto 4, 3) := by decide +kernel
theorem dX12_readValley_74 : decode cX12_readValley 74 = .ok (.iconst 0, 1) := by decide +kernel
theorem dX12_readValley_75 : decode cX12_readValley 75 = .ok (.iadd, 1) := by decide +kernel
theorem dX12_readValley_76 : decode cX12_readValley 76 = .ok (.putfield 127, 3) := by decide +kernel
theorem dX12_readValley_79 : decode cX12_readValley 79 = .ok (.goto (-57), 3) := by decide +kernel
theorem dX12_readValley_82 : decode cX12_readValley 82 = .ok (.aload_n 0, 1) := by decide +kernel
theorem dX12_readValley_83 : decode cX12_readValley 83 = .ok (.getfield 134, 3) := by decide +kernel
theorem dX12_readValley_86 : decode cX12_readValley 86 = .ok (.iconst (-1), 1) := by decide +kernel
theorem dX12_readValley_87 : decode cX12_readValley 87 = .ok (.if_icmp .ne 37, 3) := by decide +kernel
theorem dX12_readValley_90 : decode cX12_readValley 90 = .ok (.aload_n 0, 1) := by decide +kernel
theorem dX12_readValley_91 : decode cX12_readValley 91 = .ok (.invokevirtual 146, 3) := by decide +kernel
theorem dX12_readValley_94 : decode cX12_readValley 94 = .ok (.iconst (-1), 1) := by decide +kernel
theorem dX12_readValley_95 : decode cX12_readValley 95 = .ok (.if_icmp .ne 25, 3) := by decide +kernel
theorem dX12_readValley_98 : decode cX12_readValley 98 = .ok (.aload_n 0, 1) := by decide +kernel
theorem dX12_readValley_99 : decode cX12_readValley 99 = .ok (.getfield 264, 3) := by decide +kernel
theorem dX12_readValley_102 : decode cX12_readValley 102 = .ok (.iconst 2, 1) := by decide +kernel
theorem dX12_readValley_103 : decode cX12_readValley 103 = .ok (.if_icmp .lt 17, 3) := by decide +kernel
theorem dX12_readValley_106 : decode cX12_readValley 106 = .ok (.aload_n 0, 1) := by decide +kernel
theorem dX12_readValley_107 : decode cX12_readValley 107 = .ok (.getfield 267, 3) := by decide +kernel
theorem dX12_readValley_110 : decode cX12_readValley 110 = .ok (.ifCond .eq 10, 3) := by decide +kernel
theorem dX12_readValley_113 : decode cX12_readValley 113 = .ok (.aload_n 0, 1) := by decide +kernel
theorem dX12_readValley_114 : decode cX12_readValley 114 = .ok (.invokevirtual 277, 3) := by decide +kernel
theorem dX12_readValley_117 : decode cX12_readValley 117 = .ok (.ifCond .ne 7, 3) := by decide +kernel
theorem dX12_readValley_120 : decode cX12_readValley 120 = .ok (.aload_n 0, 1) := by decide +kernel
theorem dX12_readValley_121 : decode cX12_readValley 121 = .ok (.invokevirtual 143, 3) := by decide +kernel
theorem dX12_readValley_124 : decode cX12_readValley 124 = .ok (.aload_n 0, 1) := by decide +kernel
theorem dX12_readValley_125 : decode cX12_readValley 125 = .ok (.getfield 134, 3) := by decide +kernel
theorem dX12_readValley_128 : decode cX12_readValley 128 = .ok (.ireturn, 1) := by decide +kernel
theorem dX12_takeValley_0 : decode cX12_takeValley 0 = .ok (.aload_n 0, 1) := by decide +kernel
theorem dX12_takeValley_1 : decode cX12_takeValley 1 = .ok (.aload_n 0, 1) := by decide +kernel
theorem dX12_takeValley_2 : decode cX12_takeValley 2 = .ok (.getfield 264, 3) := by decide +kernel
theorem dX12_takeValley_5 : decode cX12_takeValley 5 = .ok (.putfield 302, 3) := by decide +kernel
theorem dX12_takeValley_8 : decode cX12_takeValley 8 = .ok (.aload_n 0, 1) := by decide +kernel
theorem dX12_takeValley_9 : decode cX12_takeValley 9 = .ok (.aload_n 0, 1) := by decide +kernel
theorem dX12_takeValley_10 : decode cX12_takeValley 10 = .ok (.getfield 267, 3) := by decide +kernel
theorem dX12_takeValley_13 : decode cX12_takeValley 13 = .ok (.putfield 290, 3) := by decide +kernel
theorem dX12_takeValley_16 : decode cX12_takeValley 16 = .ok (.iconst 0, 1) := by decide +kernel
theorem dX12_takeValley_17 : decode cX12_takeValley 17 = .ok (.istore_n 1, 1) := by decide +kernel
theorem dX12_takeValley_18 : decode cX12_takeValley 18 = .ok (.iload_n 1, 1) := by decide +kernel
theorem dX12_takeValley_19 : decode cX12_takeValley 19 = .ok (.bipush 32, 2) := by decide +kernel
theorem dX12_takeValley_21 : decode cX12_takeValley 21 = .ok (.if_icmp .ge 21, 3) := by decide +kernel
theorem dX12_takeValley_24 : decode cX12_takeValley 24 = .ok (.aload_n 0, 1) := by decide +kernel
theorem dX12_takeValley_25 : decode cX12_takeValley 25 = .ok (.getfield 46, 3) := by decide +kernel
theorem dX12_takeValley_28 : decode cX12_takeValley 28 = .ok (.iload_n 1, 1) := by decide +kernel
theorem dX12_takeValley_29 : decode cX12_takeValley 29 = .ok (.aload_n 0, 1) := by decide +kernel
theorem dX12_takeValley_30 : decode cX12_takeValley 30 = .ok (.getfield 40, 3) := by decide +kernel
theorem dX12_takeValley_33 : decode cX12_takeValley 33 = .ok (.iload_n 1, 1) := by decide +kernel
theorem dX12_takeValley_34 : decode cX12_takeValley 34 = .ok (.iaload, 1) := by decide +kernel
theorem dX12_takeValley_35 : decode cX12_takeValley 35 = .ok (.iastore, 1) := by decide +kernel
theorem dX12_takeValley_36 : decode cX12_takeValley 36 = .ok (.iinc 1 1, 3) := by decide +kernel
theorem dX12_takeValley_39 : decode cX12_takeValley 39 = .ok (.goto (-21), 3) := by decide +kernel
theorem dX12_takeValley_42 : decode cX12_takeValley 42 = .ok (.iconst 0, 1) := by decide +kernel
theorem dX12_takeValley_43 : decode cX12_takeValley 43 = .ok (.istore_n 1, 1) := by decide +kernel
theorem dX12_takeValley_44 : decode cX12_takeValley 44 = .ok (.iload_n 1, 1) := by decide +kernel
theorem dX12_takeValley_45 : decode cX12_takeValley 45 = .ok (.bipush 90, 2) := by decide +kernel
theorem dX12_takeValley_47 : decode cX12_takeValley 47 = .ok (.if_icmp .ge 16, 3) := by decide +kernel
theorem dX12_takeValley_50 : decode cX12_takeValley 50 = .ok (.aload_n 0, 1) := by decide +kernel
theorem dX12_takeValley_51 : decode cX12_takeValley 51 = .ok (.getfield 55, 3) := by decide +kernel
theorem dX12_takeValley_54 : decode cX12_takeValley 54 = .ok (.iload_n 1, 1) := by decide +kernel
theorem dX12_takeValley_55 : decode cX12_takeValley 55 = .ok (.iconst 0, 1) := by decide +kernel
theorem dX12_takeValley_56 : decode cX12_takeValley 56 = .ok (.iastore, 1) := by decide +kernel
theorem dX12_takeValley_57 : decode cX12_takeValley 57 = .ok (.iinc 1 1, 3) := by decide +kernel
theorem dX12_takeValley_60 : decode cX12_takeValley 60 = .ok (.goto (-16), 3) := by decide +kernel
theorem dX12_takeValley_63 : decode cX12_takeValley 63 = .ok (.iconst 0, 1) := by decide +kernel
theorem dX12_takeValley_64 : decode cX12_takeValley 64 = .ok (.istore_n 1, 1) := by decide +kernel
theorem dX12_takeValley_65 : decode cX12_takeValley 65 = .ok (.iload_n 1, 1) := by decide +kernel
theorem dX12_takeValley_66 : decode cX12_takeValley 66 = .ok (.aload_n 0, 1) := by decide +kernel
theorem dX12_takeValley_67 : decode cX12_takeValley 67 = .ok (.getfield 290, 3) := by decide +kernel
theorem dX12_takeValley_70 : decode cX12_takeValley 70 = .ok (.if_icmp .ge 16, 3) := by decide +kernel
theorem dX12_takeValley_73 : decode cX12_takeValley 73 = .ok (.aload_n 0, 1) := by decide +kernel
theorem dX12_takeValley_74 : decode cX12_takeValley 74 = .ok (.iload_n 1, 1) := by decide +kernel
theorem dX12_takeValley_75 : decode cX12_takeValley 75 = .ok (.iconst 1, 1) := by decide +kernel
theorem dX12_takeValley_76 : decode cX12_takeValley 76 = .ok (.iconst (-1), 1) := by decide +kernel
theorem dX12_takeValley_77 : decode cX12_takeValley 77 = .ok (.invokevirtual 305, 3) := by decide +kernel
theorem dX12_takeValley_80 : decode cX12_takeValley 80 = .ok (.iinc 1 1, 3) := by decide +kernel
theorem dX12_takeValley_83 : decode cX12_takeValley 83 = .ok (.goto (-18), 3) := by decide +kernel
theorem dX12_takeValley_86 : decode cX12_takeValley 86 = .ok (.iconst 0, 1) := by decide +kernel
theorem dX12_takeValley_87 : decode cX12_takeValley 87 = .ok (.istore_n 1, 1) := by decide +kernel
theorem dX12_takeValley_88 : decode cX12_takeValley 88 = .ok (.iload_n 1, 1) := by decide +kernel
theorem dX12_takeValley_89 : decode cX12_takeValley 89 = .ok (.aload_n 0, 1) := by decide +kernel
theorem dX12_takeValley_90 : decode cX12_takeValley 90 = .ok (.getfield 290, 3) := by decide +kernel
theorem dX12_takeValley_93 : decode cX12_takeValley 93 = .ok (.if_icmp .ge 85, 3) := by decide +kernel
theorem dX12_takeValley_96 : decode cX12_takeValley 96 = .ok (.aload_n 0, 1) := by decide +kernel
theorem dX12_takeValley_97 : decode cX12_takeValley 97 = .ok (.getfield 43, 3) := by decide +kernel
theorem dX12_takeValley_100 : decode cX12_takeValley 100 = .ok (.iconst 4, 1) := by decide +kernel
theorem dX12_takeValley_101 : decode cX12_takeValley 101 = .ok (.iload_n 1, 1) := by decide +kernel
theorem dX12_takeValley_102 : decode cX12_takeValley 102 = .ok (.imul, 1) := by decide +kernel
theorem dX12_takeValley_103 : decode cX12_takeValley 103 = .ok (.iconst 1, 1) := by decide +kernel
theorem dX12_takeValley_104 : decode cX12_takeValley 104 = .ok (.iadd, 1) := by decide +kernel
theorem dX12_takeValley_105 : decode cX12_takeValley 105 = .ok (.iaload, 1) := by decide +kernel
theorem dX12_takeValley_106 : decode cX12_takeValley 106 = .ok (.istore_n 2, 1) := by decide +kernel
theorem dX12_takeValley_107 : decode cX12_takeValley 107 = .ok (.aload_n 0, 1) := by decide +kernel
theorem dX12_takeValley_108 : decode cX12_takeValley 108 = .ok (.iload_n 1, 1) := by decide +kernel
theorem dX12_takeValley_109 : decode cX12_takeValley 109 = .ok (.iconst 2, 1) := by decide +kernel
theorem dX12_takeValley_110 : decode cX12_takeValley 110 = .ok (.aload_n 0, 1) := by decide +kernel
theorem dX12_takeValley_111 : decode cX12_takeValley 111 = .ok (.iload_n 2, 1) := by decide +kernel
theorem dX12_takeValley_112 : decode cX12_takeValley 112 = .ok (.iconst 0, 1) := by decide +kernel
theorem dX12_takeValley_113 : decode cX12_takeValley 113 = .ok (.invokevirtual 299, 3) := by decide +kernel
theorem dX12_takeValley_116 : decode cX12_takeValley 116 = .ok (.invokevirtual 305, 3) := by decide +kernel
theorem dX12_takeValley_119 : decode cX12_takeValley 119 = .ok (.aload_n 0, 1) := by decide +kernel
theorem dX12_takeValley_120 : decode cX12_takeValley 120 = .ok (.iload_n 1, 1) := by decide +kernel
theorem dX12_takeValley_121 : decode cX12_takeValley 121 = .ok (.iconst 1, 1) := by decide +kernel
theorem dX12_takeValley_122 : decode cX12_takeValley 122 = .ok (.iload_n 2, 1) := by decide +kernel
theorem dX12_takeValley_123 : decode cX12_takeValley 123 = .ok (.invokevirtual 305, 3) := by decide +kernel
theorem dX12_takeValley_126 : decode cX12_takeValley 126 = .ok (.aload_n 0, 1) := by decide +kernel
theorem dX12_takeValley_127 : decode cX12_takeValley 127 = .ok (.iload_n 1, 1) := by decide +kernel
theorem dX12_takeValley_128 : decode cX12_takeValley 128 = .ok (.iconst 0, 1) := by decide +kernel
theorem dX12_takeValley_129 : decode cX12_takeValley 129 = .ok (.aload_n 0, 1) := by decide +kernel
theorem dX12_takeValley_130 : decode cX12_takeValley 130 = .ok (.getfield 43, 3) := by decide +kernel
theorem dX12_takeValley_133 : decode cX12_takeValley 133 = .ok (.iconst 4, 1) := by decide +kernel
theorem dX12_takeValley_134 : decode cX12_takeValley 134 = .ok (.iload_n 1, 1) := by decide +kernel
theorem dX12_takeValley_135 : decode cX12_takeValley 135 = .ok (.imul, 1) := by decide +kernel
theorem dX12_takeValley_136 : decode cX12_takeValley 136 = .ok (.iaload, 1) := by decide +kernel
theorem dX12_takeValley_137 : decode cX12_takeValley 137 = .ok (.invokevirtual 305, 3) := by decide +kernel
theorem dX12_takeValley_140 : decode cX12_takeValley 140 = .ok (.aload_n 0, 1) := by decide +kernel
theorem dX12_takeValley_141 : decode cX12_takeValley 141 = .ok (.getfield 49, 3) := by decide +kernel
theorem dX12_takeValley_144 : decode cX12_takeValley 144 = .ok (.iload_n 1, 1) := by decide +kernel
theorem dX12_takeValley_145 : decode cX12_takeValley 145 = .ok (.aload_n 0, 1) := by decide +kernel
theorem dX12_takeValley_146 : decode cX12_takeValley 146 = .ok (.getfield 43, 3) := by decide +kernel
theorem dX12_takeValley_149 : decode cX12_takeValley 149 = .ok (.iconst 4, 1) := by decide +kernel
theorem dX12_takeValley_150 : decode cX12_takeValley 150 = .ok (.iload_n 1, 1) := by decide +kernel
theorem dX12_takeValley_151 : decode cX12_takeValley 151 = .ok (.imul, 1) := by decide +kernel
theorem dX12_takeValley_152 : decode cX12_takeValley 152 = .ok (.iconst 2, 1) := by decide +kernel
theorem dX12_takeValley_153 : decode cX12_takeValley 153 = .ok (.iadd, 1) := by decide +kernel
theorem dX12_takeValley_154 : decode cX12_takeValley 154 = .ok (.iaload, 1) := by decide +kernel
theorem dX12_takeValley_155 : decode cX12_takeValley 155 = .ok (.iastore, 1) := by decide +kernel
theorem dX12_takeValley_156 : decode cX12_takeValley 156 = .ok (.aload_n 0, 1) := by decide +kernel
theorem dX12_takeValley_157 : decode cX12_takeValley 157 = .ok (.getfield 52, 3) := by decide +kernel
theorem dX12_takeValley_160 : decode cX12_takeValley 160 = .ok (.iload_n 1, 1) := by decide +kernel
theorem dX12_takeValley_161 : decode cX12_takeValley 161 = .ok (.aload_n 0, 1) := by decide +kernel
theorem dX12_takeValley_162 : decode cX12_takeValley 162 = .ok (.getfield 43, 3) := by decide +kernel
theorem dX12_takeValley_165 : decode cX12_takeValley 165 = .ok (.iconst 4, 1) := by decide +kernel
theorem dX12_takeValley_166 : decode cX12_takeValley 166 = .ok (.iload_n 1, 1) := by decide +kernel
theorem dX12_takeValley_167 : decode cX12_takeValley 167 = .ok (.imul, 1) := by decide +kernel
theorem dX12_takeValley_168 : decode cX12_takeValley 168 = .ok (.iconst 3, 1) := by decide +kernel
theorem dX12_takeValley_169 : decode cX12_takeValley 169 = .ok (.iadd, 1) := by decide +kernel
theorem dX12_takeValley_170 : decode cX12_takeValley 170 = .ok (.iaload, 1) := by decide +kernel
theorem dX12_takeValley_171 : decode cX12_takeValley 171 = .ok (.iastore, 1) := by decide +kernel
theorem dX12_takeValley_172 : decode cX12_takeValley 172 = .ok (.iinc 1 1, 3) := by decide +kernel
theorem dX12_takeValley_175 : decode cX12_takeValley 175 = .ok (.goto (-87), 3) := by decide +kernel
theorem dX12_takeValley_178 : decode cX12_takeValley 178 = .ok (.aload_n 0, 1) := by decide +kernel
theorem dX12_takeValley_179 : decode cX12_takeValley 179 = .ok (.iconst 0, 1) := by decide +kernel
theorem dX12_takeValley_180 : decode cX12_takeValley 180 = .ok (.putfield 309, 3) := by decide +kernel
theorem dX12_takeValley_183 : decode cX12_takeValley 183 = .ok (.aload_n 0, 1) := by decide +kernel
theorem dX12_takeValley_184 : decode cX12_takeValley 184 = .ok (.iconst 0, 1) := by decide +kernel
theorem dX12_takeValley_185 : decode cX12_takeValley 185 = .ok (.putfield 312, 3) := by decide +kernel
theorem dX12_takeValley_188 : decode cX12_takeValley 188 = .ok (.aload_n 0, 1) := by decide +kernel
theorem dX12_takeValley_189 : decode cX12_takeValley 189 = .ok (.iconst 0, 1) := by decide +kernel
theorem dX12_takeValley_190 : decode cX12_takeValley 190 = .ok (.putfield 315, 3) := by decide +kernel
theorem dX12_takeValley_193 : decode cX12_takeValley 193 = .ok (.aload_n 0, 1) := by decide +kernel
theorem dX12_takeValley_194 : decode cX12_takeValley 194 = .ok (.getfield 290, 3) := by decide +kernel
theorem dX12_takeValley_197 : decode cX12_takeValley 197 = .ok (.ireturn, 1) := by decide +kernel
def w_X12_readValley : List Cond := .code yX12_readValley cX12_readValley 2 (some .int) :: ([Cond.fieldLink RX12 127 "HeadYearModel" "at" "I", Cond.fieldLink RX12 134 "HeadYearModel" "wrong" "I", Cond.fieldLink RX12 264 "HeadYearModel" "readLevels" "I", Cond.fieldLink RX12 267 "HeadYearModel" "readFamilies" "I", Cond.methodLink RX12 146 yX12_look, Cond.instanceMethod yX12_look, Cond.selects RX12 yX12_look yX12_look, Cond.initialized RX12, Cond.methodLink RX12 143 yX12_bad, Cond.instanceMethod yX12_bad, Cond.selects RX12 yX12_bad yX12_bad, Cond.methodLink RX12 277 yX12_areHoused, Cond.instanceMethod yX12_areHoused, Cond.selects RX12 yX12_areHoused yX12_areHoused, Cond.methodLink RX12 274 yX12_clauseText, Cond.instanceMethod yX12_clauseText, Cond.selects RX12 yX12_clauseText yX12_clauseText] ++ (u_ws RX12 TX12 54 ++ (w_X12_look ++ (w_X12_bad ++ (w_X12_areHoused ++ (w_X12_clauseText ++ ([])))))))
theorem in_X12_readValley_X12 : ∀ w ∈ u_ws RX12 TX12 54, w ∈ w_X12_readValley := fun _ h => List.mem_cons_of_mem _ (List.mem_append_right _ (List.mem_append_left _ h))
theorem gg_X12_readValley_X12_look : GoodIn w_X12_readValley w_X12_look := goodIn_sub (fun _ h => List.mem_cons_of_mem _ (List.mem_append_right _ (List.mem_append_right _ (List.mem_append_left _ h)))) (by decide +kernel)
theorem gg_X12_readValley_X12_bad : GoodIn w_X12_readValley w_X12_bad := goodIn_sub (fun _ h => List.mem_cons_of_mem _ (List.mem_append_right _ (List.mem_append_right _ (List.mem_append_right _ (List.mem_append_left _ h))))) (by decide +kernel)
theorem gg_X12_readValley_X12_areHoused : GoodIn w_X12_readValley w_X12_areHoused := goodIn_sub (fun _ h => List.mem_cons_of_mem _ (List.mem_append_right _ (List.mem_append_right _ (List.mem_append_right _ (List.mem_append_right _ (List.mem_append_left _ h)))))) (by decide +kernel)
theorem gg_X12_readValley_X12_clauseText : GoodIn w_X12_readValley w_X12_clauseText := goodIn_sub (fun _ h => List.mem_cons_of_mem _ (List.mem_append_right _ (List.mem_append_right _ (List.mem_append_right _ (List.mem_append_right _ (List.mem_append_right _ (List.mem_append_left _ h))))))) (by decide +kernel)
theorem g_X12_readValley_X12_areHoused_277 : GoodIn w_X12_readValley (wsV RX12 277 RX12 yX12_areHoused w_X12_areHoused) := goodIn_app (goodIn_of _ (by decide +kernel)) gg_X12_readValley_X12_areHoused
theorem g_X12_readValley_X12_bad_143 : GoodIn w_X12_readValley (wsV RX12 143 RX12 yX12_bad w_X12_bad) := goodIn_app (goodIn_of _ (by decide +kernel)) gg_X12_readValley_X12_bad
theorem g_X12_readValley_X12_clauseText_274 : GoodIn w_X12_readValley (wsV RX12 274 RX12 yX12_clauseText w_X12_clauseText) := goodIn_app (goodIn_of _ (by decide +kernel)) gg_X12_readValley_X12_clauseText
theorem g_X12_readValley_X12_look_146 : GoodIn w_X12_readValley (wsV RX12 146 RX12 yX12_look w_X12_look) := goodIn_app (goodIn_of _ (by decide +kernel)) gg_X12_readValley_X12_look
theorem fk_3_4_19_20 {E : py_E} {G : wf_G} {L L1 : List Nat} {f f1 : py_F} {m : Nat} (hWF : WF E G L1 f1) (Tm : G.1 m = 13) (h : FK [3, 4, 19, 20] f f1 m) {v0 : Int32} {v2 : Int32} {v3 : Int32} {v4 : Int32} {v5 : Int32} {v13 : Int32} {v14 : Int32} {v19 : Int32} {v20 : Int32} {v24 : Int32} {v25 : Int32} {v29 : Int32} {v30 : Int64} {v31 : Int32} {v32 : Int32} {v33 : Int32} {v34 : Int32} {v43 : Int32} {v48 : Int64} {v51 : Int32} {v52 : Int64} {v53 : Int32} (hr : py_at L f m (.inr (12, [.int v0, .ref (G.2 m 1), .int v2, .int v3, .int v4, .int v5, .ref (G.2 m 6), .ref (G.2 m 7), .ref (G.2 m 8), .ref (G.2 m 9), .ref (G.2 m 10), .ref (G.2 m 11), .ref (G.2 m 12), .int v13, .int v14, .ref (G.2 m 15), .ref (G.2 m 16), .ref (G.2 m 17), .ref (G.2 m 18), .int v19, .int v20, .ref (G.2 m 21), .ref (G.2 m 22), .ref (G.2 m 23), .int v24, .int v25, .ref (G.2 m 26), .ref (G.2 m 27), .ref (G.2 m 28), .int v29, .long v30, .int v31, .int v32, .int v33, .int v34, .ref (G.2 m 35), .ref (G.2 m 36), .ref (G.2 m 37), .ref (G.2 m 38), .ref (G.2 m 39), .ref (G.2 m 40), .ref (G.2 m 41), .ref (G.2 m 42), .int v43, .ref (G.2 m 44), .ref (G.2 m 45), .ref (G.2 m 46), .ref (G.2 m 47), .long v48, .ref (G.2 m 49), .ref (G.2 m 50), .int v51, .long v52, .int v53]))) : ∃ (w3 : Int32) (w4 : Int32) (w19 : Int32) (w20 : Int32), py_at L1 f1 m (.inr (12, [.int v0, .ref (G.2 m 1), .int v2, .int w3, .int w4, .int v5, .ref (G.2 m 6), .ref (G.2 m 7), .ref (G.2 m 8), .ref (G.2 m 9), .ref (G.2 m 10), .ref (G.2 m 11), .ref (G.2 m 12), .int v13, .int v14, .ref (G.2 m 15), .ref (G.2 m 16), .ref (G.2 m 17), .ref (G.2 m 18), .int w19, .int w20, .ref (G.2 m 21), .ref (G.2 m 22), .ref (G.2 m 23), .int v24, .int v25, .ref (G.2 m 26), .ref (G.2 m 27), .ref (G.2 m 28), .int v29, .long v30, .int v31, .int v32, .int v33, .int v34, .ref (G.2 m 35), .ref (G.2 m 36), .ref (G.2 m 37), .ref (G.2 m 38), .ref (G.2 m 39), .ref (G.2 m 40), .ref (G.2 m 41), .ref (G.2 m 42), .int v43, .ref (G.2 m 44), .ref (G.2 m 45), .ref (G.2 m 46), .ref (G.2 m 47), .long v48, .ref (G.2 m 49), .ref (G.2 m 50), .int v51, .long v52, .int v53])) ∧ (0 ≤ w19.toInt ∧ w19.toInt ≤ 8) ∧ (0 ≤ w20.toInt ∧ w20.toInt ≤ 10) := by
  obtain ⟨w0, w2, w3, w4, w5, w13, w14, w19, w20, w24, w25, w29, w30, w31, w32, w33, w34, w43, w48, w51, w52, w53, hr1, b2, b13, b14, b19, b20, b24, b25, b29, b31, b43, b51, b53⟩ := wg_12 hWF Tm
  have e0 : w0 = v0 := Value.int.inj (Option.some.inj (show some (Value.int w0) = some (Value.int v0) from fk_i h hr hr1 0 (by decide) (by decide)))
  subst e0
  have e2 : w2 = v2 := Value.int.inj (Option.some.inj (show some (Value.int w2) = some (Value.int v2) from fk_i h hr hr1 2 (by decide) (by decide)))
  subst e2
  have e5 : w5 = v5 := Value.int.inj (Option.some.inj (show some (Value.int w5) = some (Value.int v5) from fk_i h hr hr1 5 (by decide) (by decide)))
  subst e5
  have e13 : w13 = v13 := Value.int.inj (Option.some.inj (show some (Value.int w13) = some (Value.int v13) from fk_i h hr hr1 13 (by decide) (by decide)))
  subst e13
  have e14 : w14 = v14 := Value.int.inj (Option.some.inj (show some (Value.int w14) = some (Value.int v14) from fk_i h hr hr1 14 (by decide) (by decide)))
  subst e14
  have e24 : w24 = v24 := Value.int.inj (Option.some.inj (show some (Value.int w24) = some (Value.int v24) from fk_i h hr hr1 24 (by decide) (by decide)))
  subst e24
  have e25 : w25 = v25 := Value.int.inj (Option.some.inj (show some (Value.int w25) = some (Value.int v25) from fk_i h hr hr1 25 (by decide) (by decide)))
  subst e25
  have e29 : w29 = v29 := Value.int.inj (Option.some.inj (show some (Value.int w29) = some (Value.int v29) from fk_i h hr hr1 29 (by decide) (by decide)))
  subst e29
  have e30 : w30 = v30 := Value.long.inj (Option.some.inj (show some (Value.long w30) = some (Value.long v30) from fk_i h hr hr1 30 (by decide) (by decide)))
  subst e30
  have e31 : w31 = v31 := Value.int.inj (Option.some.inj (show some (Value.int w31) = some (Value.int v31) from fk_i h hr hr1 31 (by decide) (by decide)))
  subst e31
  have e32 : w32 = v32 := Value.int.inj (Option.some.inj (show some (Value.int w32) = some (Value.int v32) from fk_i h hr hr1 32 (by decide) (by decide)))
  subst e32
  have e33 : w33 = v33 := Value.int.inj (Option.some.inj (show some (Value.int w33) = some (Value.int v33) from fk_i h hr hr1 33 (by decide) (by decide)))
  subst e33
  have e34 : w34 = v34 := Value.int.inj (Option.some.inj (show some (Value.int w34) = some (Value.int v34) from fk_i h hr hr1 34 (by decide) (by decide)))
  subst e34
  have e43 : w43 = v43 := Value.int.inj (Option.some.inj (show some (Value.int w43) = some (Value.int v43) from fk_i h hr hr1 43 (by decide) (by decide)))
  subst e43
  have e48 : w48 = v48 := Value.long.inj (Option.some.inj (show some (Value.long w48) = some (Value.long v48) from fk_i h hr hr1 48 (by decide) (by decide)))
  subst e48
  have e51 : w51 = v51 := Value.int.inj (Option.some.inj (show some (Value.int w51) = some (Value.int v51) from fk_i h hr hr1 51 (by decide) (by decide)))
  subst e51
  have e52 : w52 = v52 := Value.long.inj (Option.some.inj (show some (Value.long w52) = some (Value.long v52) from fk_i h hr hr1 52 (by decide) (by decide)))
  subst e52
  have e53 : w53 = v53 := Value.int.inj (Option.some.inj (show some (Value.int w53) = some (Value.int v53) from fk_i h hr hr1 53 (by decide) (by decide)))
  subst e53
  exact ⟨w3, w4, w19, w20, hr1, b19, b20⟩
set_option maxHeartbeats 4000000 in
set_option maxRecDepth 100000 in
theorem c_X12_readValley (l : Launch) (E : py_E) (G : wf_G) (L : List Nat) (f : py_F) (sz : Nat) (u : Nat) (hG : GT G) (hWF : WF E G L f) (Tu : G.1 u = 13) : Met l yX12_readValley w_X12_readValley ({ frames := 5, cells := 0, slots := 0, locals := 111 }) (py_Pc E [.ref u] L f sz) (py_Qi E L f sz (fun r L1 f1 => (r.toInt = -1 → RFm f1 G u (mi f1 u 20)) ∧ WF E G L1 f1 ∧ KP G [50, 51, 13] false f f1 ∧ FK [3, 4, 19, 20] f f1 u)) 0 0 (va_A (va_pl L f) sz) := by
  refine Met.ofW (cc := cX12_readValley) (maxL := 2) (ret := (some .int)) (by decide) rfl ?_
  intro p e s m args below meth c s₁ B hml hv
  obtain ⟨rfl, rfl, hw⟩ := py_start hv
  have G0 : CallFix p m c cX12_readValley 2 s _ w_X12_readValley RX12 := ⟨B.exec, B.bytes, hml, findClass_of_methodNamed B.named, atoms_spec (ws := w_X12_readValley) B.pre⟩
  have hr := B.returns
  have hlk := B.notSynchronized
  have kcm1 : (-1 : Int32).toInt = -1 := rfl
  have kc0 : (0 : Int32).toInt = 0 := rfl
  have kc1 : (1 : Int32).toInt = 1 := rfl
  have kc2 : (2 : Int32).toInt = 2 := rfl
  have kc59 : (59 : Int32).toInt = 59 := rfl
  have hl := lv_entry ([.ref u]) (n := 2) (Nat.le_of_ble_eq_true rfl)
  rw [lg_entry_eq]
  generalize (lg_sl ([.ref u]) ++ List.replicate (2 - (lg_sl ([.ref u])).length) Slot.unset).toArray = ls at hl ⊢
  have hl : lv_has ls 2 [(0, .ref u)] := hl
  have hFK : FK [3, 4, 19, 20] f f u := FK.refl
  have hKP : KP G [50, 51, 13] false f f := KP.refl
  refine lv_aload_n G0.1 G0.2.1 dX12_readValley_0 rfl (lv_at hl 0 rfl) ?_
  refine lv_iconst (v := 0) G0.1 G0.2.1 dX12_readValley_1 (by decide) ?_
  obtain ⟨v_1, v_2, v_3, v_4, v_5, v_6, v_7, v_8, v_9, v_10, v_11, v_12, y_13, v_14, v_15, v_16, v_17, v_18, y_19, v_20, y_21, v_22, hr_35, b_23, b_24, b_25, b_26, b_27, b_28, b_29, b_30, b_31, b_32, b_33, b_34⟩ := wg_12 hWF Tu
  have tq_36 := mi_row hr_35 2 rfl
  have tq_37 := mi_row hr_35 3 rfl
  have bv_3 := wf_free v_3
  have tq_38 := mi_row hr_35 4 rfl
  have bv_4 := wf_free v_4
  have tq_39 := mi_row hr_35 19 rfl
  have tq_40 := mi_row hr_35 20 rfl
  refine py_put (C := RX12) (T := TX12) (N := 54) (k := 3) (v := .int 0) (fs' := [.int v_1, .ref (G.2 u 1), .int v_2, .int 0, .int v_4, .int v_5, .ref (G.2 u 6), .ref (G.2 u 7), .ref (G.2 u 8), .ref (G.2 u 9), .ref (G.2 u 10), .ref (G.2 u 11), .ref (G.2 u 12), .int v_6, .int v_7, .ref (G.2 u 15), .ref (G.2 u 16), .ref (G.2 u 17), .ref (G.2 u 18), .int v_8, .int v_9, .ref (G.2 u 21), .ref (G.2 u 22), .ref (G.2 u 23), .int v_10, .int v_11, .ref (G.2 u 26), .ref (G.2 u 27), .ref (G.2 u 28), .int v_12, .long y_13, .int v_14, .int v_15, .int v_16, .int v_17, .ref (G.2 u 35), .ref (G.2 u 36), .ref (G.2 u 37), .ref (G.2 u 38), .ref (G.2 u 39), .ref (G.2 u 40), .ref (G.2 u 41), .ref (G.2 u 42), .int v_18, .ref (G.2 u 44), .ref (G.2 u 45), .ref (G.2 u 46), .ref (G.2 u 47), .long y_19, .ref (G.2 u 49), .ref (G.2 u 50), .int v_20, .long y_21, .int v_22]) (ty0 := tyX12) G0 hw tyX12_ok nmX12 in_X12_readValley_X12 rfl hr_35 (by decide) (by decide +kernel) rfl rfl rfl rfl (Nat.le_of_ble_eq_true rfl) rfl dX12_readValley_2 (fun f_41 H_42 locs h_43 x_44 hw => ?_)
  have hFK := hFK.put hr_35 h_43 3 (by decide) rfl
  have hKP := hKP.upd hWF x_44 Tu (Or.inl (by decide))
  have hWF := wf_upd hWF h_43 x_44 (by rw [Tu]; exact ⟨v_1, v_2, 0, v_4, v_5, v_6, v_7, v_8, v_9, v_10, v_11, v_12, y_13, v_14, v_15, v_16, v_17, v_18, y_19, v_20, y_21, v_22, rfl, ⟨by omega, by omega⟩, ⟨by omega, by omega⟩, ⟨by omega, by omega⟩, ⟨by omega, by omega⟩, ⟨by omega, by omega⟩, ⟨by omega, by omega⟩, ⟨by omega, by omega⟩, ⟨by omega, by omega⟩, ⟨by omega, by omega⟩, ⟨by omega, by omega⟩, ⟨by omega, by omega⟩, ⟨by omega, by omega⟩⟩)
  have tq_45 := mi_row h_43 2 rfl
  have tq_46 := mi_row h_43 3 rfl
  have tq_47 := mi_row h_43 4 rfl
  have bv_4 := wf_free v_4
  have tq_48 := mi_row h_43 19 rfl
  have tq_49 := mi_row h_43 20 rfl
  refine lv_aload_n G0.1 G0.2.1 dX12_readValley_5 rfl (lv_at hl 0 rfl) ?_
  refine lv_iconst (v := (-1)) G0.1 G0.2.1 dX12_readValley_6 (by decide) ?_
  refine py_put (C := RX12) (T := TX12) (N := 54) (k := 4) (v := .int (-1)) (fs' := [.int v_1, .ref (G.2 u 1), .int v_2, .int 0, .int (-1), .int v_5, .ref (G.2 u 6), .ref (G.2 u 7), .ref (G.2 u 8), .ref (G.2 u 9), .ref (G.2 u 10), .ref (G.2 u 11), .ref (G.2 u 12), .int v_6, .int v_7, .ref (G.2 u 15), .ref (G.2 u 16), .ref (G.2 u 17), .ref (G.2 u 18), .int v_8, .int v_9, .ref (G.2 u 21), .ref (G.2 u 22), .ref (G.2 u 23), .int v_10, .int v_11, .ref (G.2 u 26), .ref (G.2 u 27), .ref (G.2 u 28), .int v_12, .long y_13, .int v_14, .int v_15, .int v_16, .int v_17, .ref (G.2 u 35), .ref (G.2 u 36), .ref (G.2 u 37), .ref (G.2 u 38), .ref (G.2 u 39), .ref (G.2 u 40), .ref (G.2 u 41), .ref (G.2 u 42), .int v_18, .ref (G.2 u 44), .ref (G.2 u 45), .ref (G.2 u 46), .ref (G.2 u 47), .long y_19, .ref (G.2 u 49), .ref (G.2 u 50), .int v_20, .long y_21, .int v_22]) (ty0 := tyX12) G0 hw tyX12_ok nmX12 in_X12_readValley_X12 rfl h_43 (by decide) (by decide +kernel) rfl rfl rfl rfl (Nat.le_of_ble_eq_true rfl) rfl dX12_readValley_7 (fun f_50 H_51 locs h_52 x_53 hw => ?_)
  have hFK := hFK.put h_43 h_52 4 (by decide) rfl
  have hKP := hKP.upd hWF x_53 Tu (Or.inl (by decide))
  have hWF := wf_upd hWF h_52 x_53 (by rw [Tu]; exact ⟨v_1, v_2, 0, (-1), v_5, v_6, v_7, v_8, v_9, v_10, v_11, v_12, y_13, v_14, v_15, v_16, v_17, v_18, y_19, v_20, y_21, v_22, rfl, ⟨by omega, by omega⟩, ⟨by omega, by omega⟩, ⟨by omega, by omega⟩, ⟨by omega, by omega⟩, ⟨by omega, by omega⟩, ⟨by omega, by omega⟩, ⟨by omega, by omega⟩, ⟨by omega, by omega⟩, ⟨by omega, by omega⟩, ⟨by omega, by omega⟩, ⟨by omega, by omega⟩, ⟨by omega, by omega⟩⟩)
  have tq_54 := mi_row h_52 2 rfl
  have tq_55 := mi_row h_52 3 rfl
  have tq_56 := mi_row h_52 4 rfl
  have tq_57 := mi_row h_52 19 rfl
  have tq_58 := mi_row h_52 20 rfl
  refine lv_aload_n G0.1 G0.2.1 dX12_readValley_10 rfl (lv_at hl 0 rfl) ?_
  refine lv_iconst (v := 0) G0.1 G0.2.1 dX12_readValley_11 (by decide) ?_
  refine py_put (C := RX12) (T := TX12) (N := 54) (k := 19) (v := .int 0) (fs' := [.int v_1, .ref (G.2 u 1), .int v_2, .int 0, .int (-1), .int v_5, .ref (G.2 u 6), .ref (G.2 u 7), .ref (G.2 u 8), .ref (G.2 u 9), .ref (G.2 u 10), .ref (G.2 u 11), .ref (G.2 u 12), .int v_6, .int v_7, .ref (G.2 u 15), .ref (G.2 u 16), .ref (G.2 u 17), .ref (G.2 u 18), .int 0, .int v_9, .ref (G.2 u 21), .ref (G.2 u 22), .ref (G.2 u 23), .int v_10, .int v_11, .ref (G.2 u 26), .ref (G.2 u 27), .ref (G.2 u 28), .int v_12, .long y_13, .int v_14, .int v_15, .int v_16, .int v_17, .ref (G.2 u 35), .ref (G.2 u 36), .ref (G.2 u 37), .ref (G.2 u 38), .ref (G.2 u 39), .ref (G.2 u 40), .ref (G.2 u 41), .ref (G.2 u 42), .int v_18, .ref (G.2 u 44), .ref (G.2 u 45), .ref (G.2 u 46), .ref (G.2 u 47), .long y_19, .ref (G.2 u 49), .ref (G.2 u 50), .int v_20, .long y_21, .int v_22]) (ty0 := tyX12) G0 hw tyX12_ok nmX12 in_X12_readValley_X12 rfl h_52 (by decide) (by decide +kernel) rfl rfl rfl rfl (Nat.le_of_ble_eq_true rfl) rfl dX12_readValley_12 (fun f_59 H_60 locs h_61 x_62 hw => ?_)
  have hFK := hFK.put h_52 h_61 19 (by decide) rfl
  have hKP := hKP.upd hWF x_62 Tu (Or.inl (by decide))
  have hWF := wf_upd hWF h_61 x_62 (by rw [Tu]; exact ⟨v_1, v_2, 0, (-1), v_5, v_6, v_7, 0, v_9, v_10, v_11, v_12, y_13, v_14, v_15, v_16, v_17, v_18, y_19, v_20, y_21, v_22, rfl, ⟨by omega, by omega⟩, ⟨by omega, by omega⟩, ⟨by omega, by omega⟩, ⟨by omega, by omega⟩, ⟨by omega, by omega⟩, ⟨by omega, by omega⟩, ⟨by omega, by omega⟩, ⟨by omega, by omega⟩, ⟨by omega, by omega⟩, ⟨by omega, by omega⟩, ⟨by omega, by omega⟩, ⟨by omega, by omega⟩⟩)
  have tq_63 := mi_row h_61 2 rfl
  have tq_64 := mi_row h_61 3 rfl
  have tq_65 := mi_row h_61 4 rfl
  have tq_66 := mi_row h_61 19 rfl
  have tq_67 := mi_row h_61 20 rfl
  refine lv_aload_n G0.1 G0.2.1 dX12_readValley_15 rfl (lv_at hl 0 rfl) ?_
  refine lv_iconst (v := 0) G0.1 G0.2.1 dX12_readValley_16 (by decide) ?_
  refine py_put (C := RX12) (T := TX12) (N := 54) (k := 20) (v := .int 0) (fs' := [.int v_1, .ref (G.2 u 1), .int v_2, .int 0, .int (-1), .int v_5, .ref (G.2 u 6), .ref (G.2 u 7), .ref (G.2 u 8), .ref (G.2 u 9), .ref (G.2 u 10), .ref (G.2 u 11), .ref (G.2 u 12), .int v_6, .int v_7, .ref (G.2 u 15), .ref (G.2 u 16), .ref (G.2 u 17), .ref (G.2 u 18), .int 0, .int 0, .ref (G.2 u 21), .ref (G.2 u 22), .ref (G.2 u 23), .int v_10, .int v_11, .ref (G.2 u 26), .ref (G.2 u 27), .ref (G.2 u 28), .int v_12, .long y_13, .int v_14, .int v_15, .int v_16, .int v_17, .ref (G.2 u 35), .ref (G.2 u 36), .ref (G.2 u 37), .ref (G.2 u 38), .ref (G.2 u 39), .ref (G.2 u 40), .ref (G.2 u 41), .ref (G.2 u 42), .int v_18, .ref (G.2 u 44), .ref (G.2 u 45), .ref (G.2 u 46), .ref (G.2 u 47), .long y_19, .ref (G.2 u 49), .ref (G.2 u 50), .int v_20, .long y_21, .int v_22]) (ty0 := tyX12) G0 hw tyX12_ok nmX12 in_X12_readValley_X12 rfl h_61 (by decide) (by decide +kernel) rfl rfl rfl rfl (Nat.le_of_ble_eq_true rfl) rfl dX12_readValley_17 (fun f_68 H_69 locs h_70 x_71 hw => ?_)
  have hFK := hFK.put h_61 h_70 20 (by decide) rfl
  have hKP := hKP.upd hWF x_71 Tu (Or.inl (by decide))
  have hWF := wf_upd hWF h_70 x_71 (by rw [Tu]; exact ⟨v_1, v_2, 0, (-1), v_5, v_6, v_7, 0, 0, v_10, v_11, v_12, y_13, v_14, v_15, v_16, v_17, v_18, y_19, v_20, y_21, v_22, rfl, ⟨by omega, by omega⟩, ⟨by omega, by omega⟩, ⟨by omega, by omega⟩, ⟨by omega, by omega⟩, ⟨by omega, by omega⟩, ⟨by omega, by omega⟩, ⟨by omega, by omega⟩, ⟨by omega, by omega⟩, ⟨by omega, by omega⟩, ⟨by omega, by omega⟩, ⟨by omega, by omega⟩, ⟨by omega, by omega⟩⟩)
  have tq_72 := mi_row h_70 2 rfl
  have tq_73 := mi_row h_70 3 rfl
  have tq_74 := mi_row h_70 4 rfl
  have tq_75 := mi_row h_70 19 rfl
  have tq_76 := mi_row h_70 20 rfl
  have hRF : mi f_68 u 4 = -1 → RFm f_68 G u (mi f_68 u 20) := fun _ => RFm.zero (by omega)
  refine lv_iconst (v := 1) G0.1 G0.2.1 dX12_readValley_20 (by decide) ?_
  refine lv_istore_n (lv' := [(1, .int 1), (0, .ref u)]) G0.1 G0.2.1 dX12_readValley_21 rfl hl (by decide) rfl (fun ls hl => ?_)
  have lo_22 : ∀ n_22 : Nat, ∀ (v_77 : Int32) (L_j22 : List Nat) (f_j22 : py_F) (H_j22 : Heap) (locs : List Loc) (ls : Array Slot), (mi f u 2 - mi f_j22 u 3).toNat + v_77.toInt.toNat = n_22 → (0 ≤ v_77.toInt ∧ v_77.toInt ≤ 1) → WF E G L_j22 f_j22 → KP G [50, 51, 13] false f f_j22 → FK [3, 4, 19, 20] f f_j22 u → (mi f_j22 u 4 = -1 → RFm f_j22 G u (mi f_j22 u 20)) → (0 ≤ mi f_j22 u 3 ∧ mi f_j22 u 2 = mi f u 2 ∧ mi f_j22 u 3 ≤ mi f u 2) → py_W E (va_A (va_pl L f) s.heap.size) s L_j22 f_j22 H_j22 locs → lv_has ls 2 [(1, .int v_77), (0, .ref u)] → W p l e (headSpec w_X12_readValley ({ frames := 5, cells := 0, slots := 0, locals := 111 })).room s m ([.ref u] : List Value).toArray below meth c H_j22 locs 0 0 (MQ below (py_Qi E L f s.heap.size (fun r L1 f1 => (r.toInt = -1 → RFm f1 G u (mi f1 u 20)) ∧ WF E G L1 f1 ∧ KP G [50, 51, 13] false f f1 ∧ FK [3, 4, 19, 20] f f1 u)) ([.ref u] : List Value).toArray s 0 0 (va_A (va_pl L f) s.heap.size)) (F0 m 22 ls []) := by
    intro n_22
    induction n_22 using Nat.strongRecOn with
    | _ n_22 ih_22 =>
      intro v_77 L_j22 f_j22 H_j22 locs ls hn_22 bv_77 hWF hKP hFK hRF iv0 hw hl
      refine lv_iload_n G0.1 G0.2.1 dX12_readValley_22 rfl (lv_at hl 0 rfl) ?_
      refine lv_if_eq (tgt := 82) G0.1 G0.2.1 dX12_readValley_23 (by decide) (fun c_78 => ?_) (fun c_78 => ?_)
      · skip
        have tc_78 := ti_eq c_78
        refine lv_aload_n G0.1 G0.2.1 dX12_readValley_82 rfl (lv_at hl 1 rfl) ?_
        obtain ⟨v_79, v_80, v_81, v_82, v_83, v_84, v_85, v_86, v_87, v_88, v_89, v_90, y_91, v_92, v_93, v_94, v_95, v_96, y_97, v_98, y_99, v_100, hr_113, b_101, b_102, b_103, b_104, b_105, b_106, b_107, b_108, b_109, b_110, b_111, b_112⟩ := wg_12 hWF Tu
        have tq_114 := mi_row hr_113 2 rfl
        have tq_115 := mi_row hr_113 3 rfl
        have bv_81 := wf_free v_81
        have tq_116 := mi_row hr_113 4 rfl
        have bv_82 := wf_free v_82
        have tq_117 := mi_row hr_113 19 rfl
        have tq_118 := mi_row hr_113 20 rfl
        refine py_get (C := RX12) (T := TX12) (N := 54) (k := 4) (v := .int v_82) G0 hw in_X12_readValley_X12 rfl hr_113 (by decide) (by decide +kernel) rfl dX12_readValley_83 ?_
        refine lv_iconst (v := (-1)) G0.1 G0.2.1 dX12_readValley_86 (by decide) ?_
        refine lv_icmp_ne (tgt := 124) G0.1 G0.2.1 dX12_readValley_87 (by decide) (fun c_119 => ?_) (fun c_119 => ?_)
        · skip
          have tc_119 := ti_ne c_119
          refine lv_aload_n G0.1 G0.2.1 dX12_readValley_124 rfl (lv_at hl 1 rfl) ?_
          refine py_get (C := RX12) (T := TX12) (N := 54) (k := 4) (v := .int v_82) G0 hw in_X12_readValley_X12 rfl hr_113 (by decide) (by decide +kernel) rfl dX12_readValley_125 ?_
          exact py_iret G0 hr rfl hlk hw ⟨(fun hr => hRF (by omega)), hWF, hKP, hFK⟩ dX12_readValley_128
        · skip
          have tc_119 := ti_eq c_119
          refine lv_aload_n G0.1 G0.2.1 dX12_readValley_90 rfl (lv_at hl 1 rfl) ?_
          refine py_calli hw (va_runV (As := []) (rest := []) G0 (c_X12_look l E G L_j22 f_j22 H_j22.size u hG hWF Tu (show 0 ≤ mi f_j22 u 3 ∧ mi f_j22 u 3 ≤ mi f_j22 u 2 by omega)) (cwV 0 G0.2.2.2.2 g_X12_readValley_X12_look_146 rfl rfl rfl (by decide +kernel) ⟨(Nat.le_of_ble_eq_true rfl), (Nat.le_of_ble_eq_true rfl)⟩) (py_preV hw (C := RX12) (T := TX12) (N := 54) rfl hr_113) rfl rfl hl.1 rfl (lv_room (Nat.le_of_ble_eq_true rfl)) dX12_readValley_91 ⟨(Nat.le_of_ble_eq_true rfl), (Nat.le_of_ble_eq_true rfl)⟩) (fun r_124 L_120 f_121 H_122 locs hp_123 hw => ?_)
          obtain ⟨en_125, en_126, en_127, hWF, kp_128, fk_129⟩ := hp_123
          have hRF : mi f_121 u 4 = -1 → RFm f_121 G u (mi f_121 u 20) := fun hw => (hRF (by first | (have hz := fk_mi fk_129 4 (by decide) (by decide); omega) | omega)).same (kp_f kp_128 (wt12_18 hG Tu) (by decide) (by decide) (fun _ => by decide)) (fk_mi fk_129 20 (by decide) (by decide))
          have hFK := hFK.trans fk_129 (by decide)
          have hKP := hKP.trans kp_128 (by decide) (by decide)
          obtain ⟨v_130, hr_131⟩ := fk_3 hWF Tu fk_129 hr_113
          have tq_132 := mi_row hr_131 2 rfl
          have tq_133 := mi_row hr_131 3 rfl
          have bv_130 := wf_free v_130
          have tq_134 := mi_row hr_131 4 rfl
          have bv_82 := wf_free v_82
          have tq_135 := mi_row hr_131 19 rfl
          have tq_136 := mi_row hr_131 20 rfl
          have br_124 := wf_free r_124
          refine lv_iconst (v := (-1)) G0.1 G0.2.1 dX12_readValley_94 (by decide) ?_
          refine lv_icmp_ne (tgt := 120) G0.1 G0.2.1 dX12_readValley_95 (by decide) (fun c_137 => ?_) (fun c_137 => ?_)
          · skip
            have tc_137 := ti_ne c_137
            replace en_126 := en_126 (by omega)
            refine lv_aload_n G0.1 G0.2.1 dX12_readValley_120 rfl (lv_at hl 1 rfl) ?_
            refine py_callv hw (va_runV (As := []) (rest := []) G0 (c_X12_bad l E G L_120 f_121 H_122.size u hG hWF Tu (show 0 ≤ mi f_121 u 3 by omega)) (cwV 0 G0.2.2.2.2 g_X12_readValley_X12_bad_143 rfl rfl rfl (by decide +kernel) ⟨(Nat.le_of_ble_eq_true rfl), (Nat.le_of_ble_eq_true rfl)⟩) (py_preV hw (C := RX12) (T := TX12) (N := 54) rfl hr_131) rfl rfl hl.1 rfl (lv_room (Nat.le_of_ble_eq_true rfl)) dX12_readValley_121 ⟨(Nat.le_of_ble_eq_true rfl), (Nat.le_of_ble_eq_true rfl)⟩) (fun L_138 f_139 H_140 locs hp_141 hw => ?_)
            obtain ⟨en_143, en_144, hWF, kp_145, fk_146⟩ := hp_141
            have hRF : mi f_139 u 4 = -1 → RFm f_139 G u (mi f_139 u 20) := fun hw => (hRF (by first | (have hz := fk_mi fk_146 4 (by decide) (by decide); omega) | omega)).same (kp_f kp_145 (wt12_18 hG Tu) (by decide) (by decide) (fun _ => by decide)) (fk_mi fk_146 20 (by decide) (by decide))
            have hFK := hFK.trans fk_146 (by decide)
            have hKP := hKP.trans kp_145 (by decide) (by decide)
            obtain ⟨v_147, hr_148⟩ := fk_4 hWF Tu fk_146 hr_131
            have tq_149 := mi_row hr_148 2 rfl
            have tq_150 := mi_row hr_148 3 rfl
            have bv_130 := wf_free v_130
            have tq_151 := mi_row hr_148 4 rfl
            have bv_147 := wf_free v_147
            have tq_152 := mi_row hr_148 19 rfl
            have tq_153 := mi_row hr_148 20 rfl
            refine lv_aload_n G0.1 G0.2.1 dX12_readValley_124 rfl (lv_at hl 1 rfl) ?_
            refine py_get (C := RX12) (T := TX12) (N := 54) (k := 4) (v := .int v_147) G0 hw in_X12_readValley_X12 rfl hr_148 (by decide) (by decide +kernel) rfl dX12_readValley_125 ?_
            exact py_iret G0 hr rfl hlk hw ⟨(fun hr => hRF (by omega)), hWF, hKP, hFK⟩ dX12_readValley_128
          · skip
            have tc_137 := ti_eq c_137
            clear en_126
            refine lv_aload_n G0.1 G0.2.1 dX12_readValley_98 rfl (lv_at hl 1 rfl) ?_
            refine py_get (C := RX12) (T := TX12) (N := 54) (k := 19) (v := .int v_86) G0 hw in_X12_readValley_X12 rfl hr_131 (by decide) (by decide +kernel) rfl dX12_readValley_99 ?_
            refine lv_iconst (v := 2) G0.1 G0.2.1 dX12_readValley_102 (by decide) ?_
            refine lv_icmp_lt (tgt := 120) G0.1 G0.2.1 dX12_readValley_103 (by decide) (fun c_154 => ?_) (fun c_154 => ?_)
            · skip
              have tc_154 := ti_lt c_154
              refine lv_aload_n G0.1 G0.2.1 dX12_readValley_120 rfl (lv_at hl 1 rfl) ?_
              refine py_callv hw (va_runV (As := []) (rest := []) G0 (c_X12_bad l E G L_120 f_121 H_122.size u hG hWF Tu (show 0 ≤ mi f_121 u 3 by omega)) (cwV 0 G0.2.2.2.2 g_X12_readValley_X12_bad_143 rfl rfl rfl (by decide +kernel) ⟨(Nat.le_of_ble_eq_true rfl), (Nat.le_of_ble_eq_true rfl)⟩) (py_preV hw (C := RX12) (T := TX12) (N := 54) rfl hr_131) rfl rfl hl.1 rfl (lv_room (Nat.le_of_ble_eq_true rfl)) dX12_readValley_121 ⟨(Nat.le_of_ble_eq_true rfl), (Nat.le_of_ble_eq_true rfl)⟩) (fun L_155 f_156 H_157 locs hp_158 hw => ?_)
              obtain ⟨en_160, en_161, hWF, kp_162, fk_163⟩ := hp_158
              have hRF : mi f_156 u 4 = -1 → RFm f_156 G u (mi f_156 u 20) := fun hw => (hRF (by first | (have hz := fk_mi fk_163 4 (by decide) (by decide); omega) | omega)).same (kp_f kp_162 (wt12_18 hG Tu) (by decide) (by decide) (fun _ => by decide)) (fk_mi fk_163 20 (by decide) (by decide))
              have hFK := hFK.trans fk_163 (by decide)
              have hKP := hKP.trans kp_162 (by decide) (by decide)
              obtain ⟨v_164, hr_165⟩ := fk_4 hWF Tu fk_163 hr_131
              have tq_166 := mi_row hr_165 2 rfl
              have tq_167 := mi_row hr_165 3 rfl
              have bv_130 := wf_free v_130
              have tq_168 := mi_row hr_165 4 rfl
              have bv_164 := wf_free v_164
              have tq_169 := mi_row hr_165 19 rfl
              have tq_170 := mi_row hr_165 20 rfl
              refine lv_aload_n G0.1 G0.2.1 dX12_readValley_124 rfl (lv_at hl 1 rfl) ?_
              refine py_get (C := RX12) (T := TX12) (N := 54) (k := 4) (v := .int v_164) G0 hw in_X12_readValley_X12 rfl hr_165 (by decide) (by decide +kernel) rfl dX12_readValley_125 ?_
              exact py_iret G0 hr rfl hlk hw ⟨(fun hr => hRF (by omega)), hWF, hKP, hFK⟩ dX12_readValley_128
            · skip
              have tc_154 := ti_nlt c_154
              refine lv_aload_n G0.1 G0.2.1 dX12_readValley_106 rfl (lv_at hl 1 rfl) ?_
              refine py_get (C := RX12) (T := TX12) (N := 54) (k := 20) (v := .int v_87) G0 hw in_X12_readValley_X12 rfl hr_131 (by decide) (by decide +kernel) rfl dX12_readValley_107 ?_
              refine lv_if_eq (tgt := 120) G0.1 G0.2.1 dX12_readValley_110 (by decide) (fun c_171 => ?_) (fun c_171 => ?_)
              · skip
                have tc_171 := ti_eq c_171
                refine lv_aload_n G0.1 G0.2.1 dX12_readValley_120 rfl (lv_at hl 1 rfl) ?_
                refine py_callv hw (va_runV (As := []) (rest := []) G0 (c_X12_bad l E G L_120 f_121 H_122.size u hG hWF Tu (show 0 ≤ mi f_121 u 3 by omega)) (cwV 0 G0.2.2.2.2 g_X12_readValley_X12_bad_143 rfl rfl rfl (by decide +kernel) ⟨(Nat.le_of_ble_eq_true rfl), (Nat.le_of_ble_eq_true rfl)⟩) (py_preV hw (C := RX12) (T := TX12) (N := 54) rfl hr_131) rfl rfl hl.1 rfl (lv_room (Nat.le_of_ble_eq_true rfl)) dX12_readValley_121 ⟨(Nat.le_of_ble_eq_true rfl), (Nat.le_of_ble_eq_true rfl)⟩) (fun L_172 f_173 H_174 locs hp_175 hw => ?_)
                obtain ⟨en_177, en_178, hWF, kp_179, fk_180⟩ := hp_175
                have hRF : mi f_173 u 4 = -1 → RFm f_173 G u (mi f_173 u 20) := fun hw => (hRF (by first | (have hz := fk_mi fk_180 4 (by decide) (by decide); omega) | omega)).same (kp_f kp_179 (wt12_18 hG Tu) (by decide) (by decide) (fun _ => by decide)) (fk_mi fk_180 20 (by decide) (by decide))
                have hFK := hFK.trans fk_180 (by decide)
                have hKP := hKP.trans kp_179 (by decide) (by decide)
                obtain ⟨v_181, hr_182⟩ := fk_4 hWF Tu fk_180 hr_131
                have tq_183 := mi_row hr_182 2 rfl
                have tq_184 := mi_row hr_182 3 rfl
                have bv_130 := wf_free v_130
                have tq_185 := mi_row hr_182 4 rfl
                have bv_181 := wf_free v_181
                have tq_186 := mi_row hr_182 19 rfl
                have tq_187 := mi_row hr_182 20 rfl
                refine lv_aload_n G0.1 G0.2.1 dX12_readValley_124 rfl (lv_at hl 1 rfl) ?_
                refine py_get (C := RX12) (T := TX12) (N := 54) (k := 4) (v := .int v_181) G0 hw in_X12_readValley_X12 rfl hr_182 (by decide) (by decide +kernel) rfl dX12_readValley_125 ?_
                exact py_iret G0 hr rfl hlk hw ⟨(fun hr => hRF (by omega)), hWF, hKP, hFK⟩ dX12_readValley_128
              · skip
                have tc_171 := ti_ne c_171
                refine lv_aload_n G0.1 G0.2.1 dX12_readValley_113 rfl (lv_at hl 1 rfl) ?_
                refine py_calli hw (va_runV (As := []) (rest := []) G0 (c_X12_areHoused l E G L_120 f_121 H_122.size u hG hWF Tu) (cwV 0 G0.2.2.2.2 g_X12_readValley_X12_areHoused_277 rfl rfl rfl (by decide +kernel) ⟨(Nat.le_of_ble_eq_true rfl), (Nat.le_of_ble_eq_true rfl)⟩) (py_preV hw (C := RX12) (T := TX12) (N := 54) rfl hr_131) rfl rfl hl.1 rfl (lv_room (Nat.le_of_ble_eq_true rfl)) dX12_readValley_114 ⟨(Nat.le_of_ble_eq_true rfl), (Nat.le_of_ble_eq_true rfl)⟩) (fun r_192 L_188 f_189 H_190 locs hp_191 hw => ?_)
                obtain ⟨b_193, rfl, rfl⟩ := hp_191
                refine lv_if_ne (tgt := 124) G0.1 G0.2.1 dX12_readValley_117 (by decide) (fun c_194 => ?_) (fun c_194 => ?_)
                · skip
                  have tc_194 := ti_ne c_194
                  refine lv_aload_n G0.1 G0.2.1 dX12_readValley_124 rfl (lv_at hl 1 rfl) ?_
                  refine py_get (C := RX12) (T := TX12) (N := 54) (k := 4) (v := .int v_82) G0 hw in_X12_readValley_X12 rfl hr_131 (by decide) (by decide +kernel) rfl dX12_readValley_125 ?_
                  exact py_iret G0 hr rfl hlk hw ⟨(fun hr => hRF (by omega)), hWF, hKP, hFK⟩ dX12_readValley_128
                · skip
                  have tc_194 := ti_eq c_194
                  refine lv_aload_n G0.1 G0.2.1 dX12_readValley_120 rfl (lv_at hl 1 rfl) ?_
                  refine py_callv hw (va_runV (As := []) (rest := []) G0 (c_X12_bad l E G L_120 f_121 H_190.size u hG hWF Tu (show 0 ≤ mi f_121 u 3 by omega)) (cwV 0 G0.2.2.2.2 g_X12_readValley_X12_bad_143 rfl rfl rfl (by decide +kernel) ⟨(Nat.le_of_ble_eq_true rfl), (Nat.le_of_ble_eq_true rfl)⟩) (py_preV hw (C := RX12) (T := TX12) (N := 54) rfl hr_131) rfl rfl hl.1 rfl (lv_room (Nat.le_of_ble_eq_true rfl)) dX12_readValley_121 ⟨(Nat.le_of_ble_eq_true rfl), (Nat.le_of_ble_eq_true rfl)⟩) (fun L_195 f_196 H_197 locs hp_198 hw => ?_)
                  obtain ⟨en_200, en_201, hWF, kp_202, fk_203⟩ := hp_198
                  have hRF : mi f_196 u 4 = -1 → RFm f_196 G u (mi f_196 u 20) := fun hw => (hRF (by first | (have hz := fk_mi fk_203 4 (by decide) (by decide); omega) | omega)).same (kp_f kp_202 (wt12_18 hG Tu) (by decide) (by decide) (fun _ => by decide)) (fk_mi fk_203 20 (by decide) (by decide))
                  have hFK := hFK.trans fk_203 (by decide)
                  have hKP := hKP.trans kp_202 (by decide) (by decide)
                  obtain ⟨v_204, hr_205⟩ := fk_4 hWF Tu fk_203 hr_131
                  have tq_206 := mi_row hr_205 2 rfl
                  have tq_207 := mi_row hr_205 3 rfl
                  have bv_130 := wf_free v_130
                  have tq_208 := mi_row hr_205 4 rfl
                  have bv_204 := wf_free v_204
                  have tq_209 := mi_row hr_205 19 rfl
                  have tq_210 := mi_row hr_205 20 rfl
                  refine lv_aload_n G0.1 G0.2.1 dX12_readValley_124 rfl (lv_at hl 1 rfl) ?_
                  refine py_get (C := RX12) (T := TX12) (N := 54) (k := 4) (v := .int v_204) G0 hw in_X12_readValley_X12 rfl hr_205 (by decide) (by decide +kernel) rfl dX12_readValley_125 ?_
                  exact py_iret G0 hr rfl hlk hw ⟨(fun hr => hRF (by omega)), hWF, hKP, hFK⟩ dX12_readValley_128
      · skip
        have tc_78 := ti_ne c_78
        refine lv_aload_n G0.1 G0.2.1 dX12_readValley_26 rfl (lv_at hl 1 rfl) ?_
        obtain ⟨v_211, v_212, v_213, v_214, v_215, v_216, v_217, v_218, v_219, v_220, v_221, v_222, y_223, v_224, v_225, v_226, v_227, v_228, y_229, v_230, y_231, v_232, hr_245, b_233, b_234, b_235, b_236, b_237, b_238, b_239, b_240, b_241, b_242, b_243, b_244⟩ := wg_12 hWF Tu
        have tq_246 := mi_row hr_245 2 rfl
        have tq_247 := mi_row hr_245 3 rfl
        have bv_213 := wf_free v_213
        have tq_248 := mi_row hr_245 4 rfl
        have bv_214 := wf_free v_214
        have tq_249 := mi_row hr_245 19 rfl
        have tq_250 := mi_row hr_245 20 rfl
        refine py_get (C := RX12) (T := TX12) (N := 54) (k := 4) (v := .int v_214) G0 hw in_X12_readValley_X12 rfl hr_245 (by decide) (by decide +kernel) rfl dX12_readValley_27 ?_
        refine lv_iconst (v := (-1)) G0.1 G0.2.1 dX12_readValley_30 (by decide) ?_
        refine lv_icmp_ne (tgt := 82) G0.1 G0.2.1 dX12_readValley_31 (by decide) (fun c_251 => ?_) (fun c_251 => ?_)
        · skip
          have tc_251 := ti_ne c_251
          refine lv_aload_n G0.1 G0.2.1 dX12_readValley_82 rfl (lv_at hl 1 rfl) ?_
          refine py_get (C := RX12) (T := TX12) (N := 54) (k := 4) (v := .int v_214) G0 hw in_X12_readValley_X12 rfl hr_245 (by decide) (by decide +kernel) rfl dX12_readValley_83 ?_
          refine lv_iconst (v := (-1)) G0.1 G0.2.1 dX12_readValley_86 (by decide) ?_
          refine lv_icmp_ne (tgt := 124) G0.1 G0.2.1 dX12_readValley_87 (by decide) (fun c_252 => ?_) (fun c_252 => ?_)
          · skip
            have tc_252 := ti_ne c_252
            refine lv_aload_n G0.1 G0.2.1 dX12_readValley_124 rfl (lv_at hl 1 rfl) ?_
            refine py_get (C := RX12) (T := TX12) (N := 54) (k := 4) (v := .int v_214) G0 hw in_X12_readValley_X12 rfl hr_245 (by decide) (by decide +kernel) rfl dX12_readValley_125 ?_
            exact py_iret G0 hr rfl hlk hw ⟨(fun hr => hRF (by omega)), hWF, hKP, hFK⟩ dX12_readValley_128
          · skip
            have tc_252 := ti_eq c_252
            refine lv_aload_n G0.1 G0.2.1 dX12_readValley_90 rfl (lv_at hl 1 rfl) ?_
            refine py_calli hw (va_runV (As := []) (rest := []) G0 (c_X12_look l E G L_j22 f_j22 H_j22.size u hG hWF Tu (show 0 ≤ mi f_j22 u 3 ∧ mi f_j22 u 3 ≤ mi f_j22 u 2 by omega)) (cwV 0 G0.2.2.2.2 g_X12_readValley_X12_look_146 rfl rfl rfl (by decide +kernel) ⟨(Nat.le_of_ble_eq_true rfl), (Nat.le_of_ble_eq_true rfl)⟩) (py_preV hw (C := RX12) (T := TX12) (N := 54) rfl hr_245) rfl rfl hl.1 rfl (lv_room (Nat.le_of_ble_eq_true rfl)) dX12_readValley_91 ⟨(Nat.le_of_ble_eq_true rfl), (Nat.le_of_ble_eq_true rfl)⟩) (fun r_257 L_253 f_254 H_255 locs hp_256 hw => ?_)
            obtain ⟨en_258, en_259, en_260, hWF, kp_261, fk_262⟩ := hp_256
            have hRF : mi f_254 u 4 = -1 → RFm f_254 G u (mi f_254 u 20) := fun hw => (hRF (by first | (have hz := fk_mi fk_262 4 (by decide) (by decide); omega) | omega)).same (kp_f kp_261 (wt12_18 hG Tu) (by decide) (by decide) (fun _ => by decide)) (fk_mi fk_262 20 (by decide) (by decide))
            have hFK := hFK.trans fk_262 (by decide)
            have hKP := hKP.trans kp_261 (by decide) (by decide)
            obtain ⟨v_263, hr_264⟩ := fk_3 hWF Tu fk_262 hr_245
            have tq_265 := mi_row hr_264 2 rfl
            have tq_266 := mi_row hr_264 3 rfl
            have bv_263 := wf_free v_263
            have tq_267 := mi_row hr_264 4 rfl
            have bv_214 := wf_free v_214
            have tq_268 := mi_row hr_264 19 rfl
            have tq_269 := mi_row hr_264 20 rfl
            have br_257 := wf_free r_257
            refine lv_iconst (v := (-1)) G0.1 G0.2.1 dX12_readValley_94 (by decide) ?_
            refine lv_icmp_ne (tgt := 120) G0.1 G0.2.1 dX12_readValley_95 (by decide) (fun c_270 => ?_) (fun c_270 => ?_)
            · skip
              have tc_270 := ti_ne c_270
              replace en_259 := en_259 (by omega)
              refine lv_aload_n G0.1 G0.2.1 dX12_readValley_120 rfl (lv_at hl 1 rfl) ?_
              refine py_callv hw (va_runV (As := []) (rest := []) G0 (c_X12_bad l E G L_253 f_254 H_255.size u hG hWF Tu (show 0 ≤ mi f_254 u 3 by omega)) (cwV 0 G0.2.2.2.2 g_X12_readValley_X12_bad_143 rfl rfl rfl (by decide +kernel) ⟨(Nat.le_of_ble_eq_true rfl), (Nat.le_of_ble_eq_true rfl)⟩) (py_preV hw (C := RX12) (T := TX12) (N := 54) rfl hr_264) rfl rfl hl.1 rfl (lv_room (Nat.le_of_ble_eq_true rfl)) dX12_readValley_121 ⟨(Nat.le_of_ble_eq_true rfl), (Nat.le_of_ble_eq_true rfl)⟩) (fun L_271 f_272 H_273 locs hp_274 hw => ?_)
              obtain ⟨en_276, en_277, hWF, kp_278, fk_279⟩ := hp_274
              have hRF : mi f_272 u 4 = -1 → RFm f_272 G u (mi f_272 u 20) := fun hw => (hRF (by first | (have hz := fk_mi fk_279 4 (by decide) (by decide); omega) | omega)).same (kp_f kp_278 (wt12_18 hG Tu) (by decide) (by decide) (fun _ => by decide)) (fk_mi fk_279 20 (by decide) (by decide))
              have hFK := hFK.trans fk_279 (by decide)
              have hKP := hKP.trans kp_278 (by decide) (by decide)
              obtain ⟨v_280, hr_281⟩ := fk_4 hWF Tu fk_279 hr_264
              have tq_282 := mi_row hr_281 2 rfl
              have tq_283 := mi_row hr_281 3 rfl
              have bv_263 := wf_free v_263
              have tq_284 := mi_row hr_281 4 rfl
              have bv_280 := wf_free v_280
              have tq_285 := mi_row hr_281 19 rfl
              have tq_286 := mi_row hr_281 20 rfl
              refine lv_aload_n G0.1 G0.2.1 dX12_readValley_124 rfl (lv_at hl 1 rfl) ?_
              refine py_get (C := RX12) (T := TX12) (N := 54) (k := 4) (v := .int v_280) G0 hw in_X12_readValley_X12 rfl hr_281 (by decide) (by decide +kernel) rfl dX12_readValley_125 ?_
              exact py_iret G0 hr rfl hlk hw ⟨(fun hr => hRF (by omega)), hWF, hKP, hFK⟩ dX12_readValley_128
            · skip
              have tc_270 := ti_eq c_270
              clear en_259
              refine lv_aload_n G0.1 G0.2.1 dX12_readValley_98 rfl (lv_at hl 1 rfl) ?_
              refine py_get (C := RX12) (T := TX12) (N := 54) (k := 19) (v := .int v_218) G0 hw in_X12_readValley_X12 rfl hr_264 (by decide) (by decide +kernel) rfl dX12_readValley_99 ?_
              refine lv_iconst (v := 2) G0.1 G0.2.1 dX12_readValley_102 (by decide) ?_
              refine lv_icmp_lt (tgt := 120) G0.1 G0.2.1 dX12_readValley_103 (by decide) (fun c_287 => ?_) (fun c_287 => ?_)
              · skip
                have tc_287 := ti_lt c_287
                refine lv_aload_n G0.1 G0.2.1 dX12_readValley_120 rfl (lv_at hl 1 rfl) ?_
                refine py_callv hw (va_runV (As := []) (rest := []) G0 (c_X12_bad l E G L_253 f_254 H_255.size u hG hWF Tu (show 0 ≤ mi f_254 u 3 by omega)) (cwV 0 G0.2.2.2.2 g_X12_readValley_X12_bad_143 rfl rfl rfl (by decide +kernel) ⟨(Nat.le_of_ble_eq_true rfl), (Nat.le_of_ble_eq_true rfl)⟩) (py_preV hw (C := RX12) (T := TX12) (N := 54) rfl hr_264) rfl rfl hl.1 rfl (lv_room (Nat.le_of_ble_eq_true rfl)) dX12_readValley_121 ⟨(Nat.le_of_ble_eq_true rfl), (Nat.le_of_ble_eq_true rfl)⟩) (fun L_288 f_289 H_290 locs hp_291 hw => ?_)
                obtain ⟨en_293, en_294, hWF, kp_295, fk_296⟩ := hp_291
                have hRF : mi f_289 u 4 = -1 → RFm f_289 G u (mi f_289 u 20) := fun hw => (hRF (by first | (have hz := fk_mi fk_296 4 (by decide) (by decide); omega) | omega)).same (kp_f kp_295 (wt12_18 hG Tu) (by decide) (by decide) (fun _ => by decide)) (fk_mi fk_296 20 (by decide) (by decide))
                have hFK := hFK.trans fk_296 (by decide)
                have hKP := hKP.trans kp_295 (by decide) (by decide)
                obtain ⟨v_297, hr_298⟩ := fk_4 hWF Tu fk_296 hr_264
                have tq_299 := mi_row hr_298 2 rfl
                have tq_300 := mi_row hr_298 3 rfl
                have bv_263 := wf_free v_263
                have tq_301 := mi_row hr_298 4 rfl
                have bv_297 := wf_free v_297
                have tq_302 := mi_row hr_298 19 rfl
                have tq_303 := mi_row hr_298 20 rfl
                refine lv_aload_n G0.1 G0.2.1 dX12_readValley_124 rfl (lv_at hl 1 rfl) ?_
                refine py_get (C := RX12) (T := TX12) (N := 54) (k := 4) (v := .int v_297) G0 hw in_X12_readValley_X12 rfl hr_298 (by decide) (by decide +kernel) rfl dX12_readValley_125 ?_
                exact py_iret G0 hr rfl hlk hw ⟨(fun hr => hRF (by omega)), hWF, hKP, hFK⟩ dX12_readValley_128
              · skip
                have tc_287 := ti_nlt c_287
                refine lv_aload_n G0.1 G0.2.1 dX12_readValley_106 rfl (lv_at hl 1 rfl) ?_
                refine py_get (C := RX12) (T := TX12) (N := 54) (k := 20) (v := .int v_219) G0 hw in_X12_readValley_X12 rfl hr_264 (by decide) (by decide +kernel) rfl dX12_readValley_107 ?_
                refine lv_if_eq (tgt := 120) G0.1 G0.2.1 dX12_readValley_110 (by decide) (fun c_304 => ?_) (fun c_304 => ?_)
                · skip
                  have tc_304 := ti_eq c_304
                  refine lv_aload_n G0.1 G0.2.1 dX12_readValley_120 rfl (lv_at hl 1 rfl) ?_
                  refine py_callv hw (va_runV (As := []) (rest := []) G0 (c_X12_bad l E G L_253 f_254 H_255.size u hG hWF Tu (show 0 ≤ mi f_254 u 3 by omega)) (cwV 0 G0.2.2.2.2 g_X12_readValley_X12_bad_143 rfl rfl rfl (by decide +kernel) ⟨(Nat.le_of_ble_eq_true rfl), (Nat.le_of_ble_eq_true rfl)⟩) (py_preV hw (C := RX12) (T := TX12) (N := 54) rfl hr_264) rfl rfl hl.1 rfl (lv_room (Nat.le_of_ble_eq_true rfl)) dX12_readValley_121 ⟨(Nat.le_of_ble_eq_true rfl), (Nat.le_of_ble_eq_true rfl)⟩) (fun L_305 f_306 H_307 locs hp_308 hw => ?_)
                  obtain ⟨en_310, en_311, hWF, kp_312, fk_313⟩ := hp_308
                  have hRF : mi f_306 u 4 = -1 → RFm f_306 G u (mi f_306 u 20) := fun hw => (hRF (by first | (have hz := fk_mi fk_313 4 (by decide) (by decide); omega) | omega)).same (kp_f kp_312 (wt12_18 hG Tu) (by decide) (by decide) (fun _ => by decide)) (fk_mi fk_313 20 (by decide) (by decide))
                  have hFK := hFK.trans fk_313 (by decide)
                  have hKP := hKP.trans kp_312 (by decide) (by decide)
                  obtain ⟨v_314, hr_315⟩ := fk_4 hWF Tu fk_313 hr_264
                  have tq_316 := mi_row hr_315 2 rfl
                  have tq_317 := mi_row hr_315 3 rfl
                  have bv_263 := wf_free v_263
                  have tq_318 := mi_row hr_315 4 rfl
                  have bv_314 := wf_free v_314
                  have tq_319 := mi_row hr_315 19 rfl
                  have tq_320 := mi_row hr_315 20 rfl
                  refine lv_aload_n G0.1 G0.2.1 dX12_readValley_124 rfl (lv_at hl 1 rfl) ?_
                  refine py_get (C := RX12) (T := TX12) (N := 54) (k := 4) (v := .int v_314) G0 hw in_X12_readValley_X12 rfl hr_315 (by decide) (by decide +kernel) rfl dX12_readValley_125 ?_
                  exact py_iret G0 hr rfl hlk hw ⟨(fun hr => hRF (by omega)), hWF, hKP, hFK⟩ dX12_readValley_128
                · skip
                  have tc_304 := ti_ne c_304
                  refine lv_aload_n G0.1 G0.2.1 dX12_readValley_113 rfl (lv_at hl 1 rfl) ?_
                  refine py_calli hw (va_runV (As := []) (rest := []) G0 (c_X12_areHoused l E G L_253 f_254 H_255.size u hG hWF Tu) (cwV 0 G0.2.2.2.2 g_X12_readValley_X12_areHoused_277 rfl rfl rfl (by decide +kernel) ⟨(Nat.le_of_ble_eq_true rfl), (Nat.le_of_ble_eq_true rfl)⟩) (py_preV hw (C := RX12) (T := TX12) (N := 54) rfl hr_264) rfl rfl hl.1 rfl (lv_room (Nat.le_of_ble_eq_true rfl)) dX12_readValley_114 ⟨(Nat.le_of_ble_eq_true rfl), (Nat.le_of_ble_eq_true rfl)⟩) (fun r_325 L_321 f_322 H_323 locs hp_324 hw => ?_)
                  obtain ⟨b_326, rfl, rfl⟩ := hp_324
                  refine lv_if_ne (tgt := 124) G0.1 G0.2.1 dX12_readValley_117 (by decide) (fun c_327 => ?_) (fun c_327 => ?_)
                  · skip
                    have tc_327 := ti_ne c_327
                    refine lv_aload_n G0.1 G0.2.1 dX12_readValley_124 rfl (lv_at hl 1 rfl) ?_
                    refine py_get (C := RX12) (T := TX12) (N := 54) (k := 4) (v := .int v_214) G0 hw in_X12_readValley_X12 rfl hr_264 (by decide) (by decide +kernel) rfl dX12_readValley_125 ?_
                    exact py_iret G0 hr rfl hlk hw ⟨(fun hr => hRF (by omega)), hWF, hKP, hFK⟩ dX12_readValley_128
                  · skip
                    have tc_327 := ti_eq c_327
                    refine lv_aload_n G0.1 G0.2.1 dX12_readValley_120 rfl (lv_at hl 1 rfl) ?_
                    refine py_callv hw (va_runV (As := []) (rest := []) G0 (c_X12_bad l E G L_253 f_254 H_323.size u hG hWF Tu (show 0 ≤ mi f_254 u 3 by omega)) (cwV 0 G0.2.2.2.2 g_X12_readValley_X12_bad_143 rfl rfl rfl (by decide +kernel) ⟨(Nat.le_of_ble_eq_true rfl), (Nat.le_of_ble_eq_true rfl)⟩) (py_preV hw (C := RX12) (T := TX12) (N := 54) rfl hr_264) rfl rfl hl.1 rfl (lv_room (Nat.le_of_ble_eq_true rfl)) dX12_readValley_121 ⟨(Nat.le_of_ble_eq_true rfl), (Nat.le_of_ble_eq_true rfl)⟩) (fun L_328 f_329 H_330 locs hp_331 hw => ?_)
                    obtain ⟨en_333, en_334, hWF, kp_335, fk_336⟩ := hp_331
                    have hRF : mi f_329 u 4 = -1 → RFm f_329 G u (mi f_329 u 20) := fun hw => (hRF (by first | (have hz := fk_mi fk_336 4 (by decide) (by decide); omega) | omega)).same (kp_f kp_335 (wt12_18 hG Tu) (by decide) (by decide) (fun _ => by decide)) (fk_mi fk_336 20 (by decide) (by decide))
                    have hFK := hFK.trans fk_336 (by decide)
                    have hKP := hKP.trans kp_335 (by decide) (by decide)
                    obtain ⟨v_337, hr_338⟩ := fk_4 hWF Tu fk_336 hr_264
                    have tq_339 := mi_row hr_338 2 rfl
                    have tq_340 := mi_row hr_338 3 rfl
                    have bv_263 := wf_free v_263
                    have tq_341 := mi_row hr_338 4 rfl
                    have bv_337 := wf_free v_337
                    have tq_342 := mi_row hr_338 19 rfl
                    have tq_343 := mi_row hr_338 20 rfl
                    refine lv_aload_n G0.1 G0.2.1 dX12_readValley_124 rfl (lv_at hl 1 rfl) ?_
                    refine py_get (C := RX12) (T := TX12) (N := 54) (k := 4) (v := .int v_337) G0 hw in_X12_readValley_X12 rfl hr_338 (by decide) (by decide +kernel) rfl dX12_readValley_125 ?_
                    exact py_iret G0 hr rfl hlk hw ⟨(fun hr => hRF (by omega)), hWF, hKP, hFK⟩ dX12_readValley_128
        · skip
          have tc_251 := ti_eq c_251
          refine lv_aload_n G0.1 G0.2.1 dX12_readValley_34 rfl (lv_at hl 1 rfl) ?_
          refine py_callv hw (va_runV (As := []) (rest := []) G0 (c_X12_clauseText l E G L_j22 f_j22 H_j22.size u hG hWF Tu (show 0 ≤ mi f_j22 u 3 ∧ mi f_j22 u 3 ≤ mi f_j22 u 2 ∧ mi f_j22 u 4 = -1 by omega)) (cwV 0 G0.2.2.2.2 g_X12_readValley_X12_clauseText_274 rfl rfl rfl (by decide +kernel) ⟨(Nat.le_of_ble_eq_true rfl), (Nat.le_of_ble_eq_true rfl)⟩) (py_preV hw (C := RX12) (T := TX12) (N := 54) rfl hr_245) rfl rfl hl.1 rfl (lv_room (Nat.le_of_ble_eq_true rfl)) dX12_readValley_35 ⟨(Nat.le_of_ble_eq_true rfl), (Nat.le_of_ble_eq_true rfl)⟩) (fun L_344 f_345 H_346 locs hp_347 hw => ?_)
          obtain ⟨en_349, en_350, hWF, kp_351, fk_352⟩ := hp_347
          have hFK := hFK.trans fk_352 (by decide)
          have hKP := hKP.trans kp_351 (by decide) (by decide)
          obtain ⟨v_353, v_354, v_355, v_356, hr_357, b_358, b_359⟩ := fk_3_4_19_20 hWF Tu fk_352 hr_245
          have tq_360 := mi_row hr_357 2 rfl
          have tq_361 := mi_row hr_357 3 rfl
          have bv_353 := wf_free v_353
          have tq_362 := mi_row hr_357 4 rfl
          have bv_354 := wf_free v_354
          have tq_363 := mi_row hr_357 19 rfl
          have tq_364 := mi_row hr_357 20 rfl
          have hRF : mi f_345 u 4 = -1 → RFm f_345 G u (mi f_345 u 20) := fun hw => en_350 (hRF (by omega)) hw
          refine lv_aload_n G0.1 G0.2.1 dX12_readValley_38 rfl (lv_at hl 1 rfl) ?_
          refine py_get (C := RX12) (T := TX12) (N := 54) (k := 4) (v := .int v_354) G0 hw in_X12_readValley_X12 rfl hr_357 (by decide) (by decide +kernel) rfl dX12_readValley_39 ?_
          refine lv_iconst (v := (-1)) G0.1 G0.2.1 dX12_readValley_42 (by decide) ?_
          refine lv_icmp_ne (tgt := 59) G0.1 G0.2.1 dX12_readValley_43 (by decide) (fun c_365 => ?_) (fun c_365 => ?_)
          · skip
            have tc_365 := ti_ne c_365
            refine lv_iconst (v := 0) G0.1 G0.2.1 dX12_readValley_59 (by decide) ?_
            refine lv_istore_n (lv' := [(1, .int 0), (0, .ref u)]) G0.1 G0.2.1 dX12_readValley_60 rfl hl (by decide) rfl (fun ls hl => ?_)
            refine lv_aload_n G0.1 G0.2.1 dX12_readValley_61 rfl (lv_at hl 1 rfl) ?_
            refine lv_dup G0.1 G0.2.1 dX12_readValley_62 rfl ?_
            refine py_get (C := RX12) (T := TX12) (N := 54) (k := 3) (v := .int v_353) G0 hw in_X12_readValley_X12 rfl hr_357 (by decide) (by decide +kernel) rfl dX12_readValley_63 ?_
            refine lv_iload_n G0.1 G0.2.1 dX12_readValley_66 rfl (lv_at hl 0 rfl) ?_
            refine lv_if_eq (tgt := 74) G0.1 G0.2.1 dX12_readValley_67 (by decide) (fun c_366 => ?_) (fun c_366 => ?_)
            · skip
              have tc_366 := ti_eq c_366
              refine lv_iconst (v := 0) G0.1 G0.2.1 dX12_readValley_74 (by decide) ?_
              refine lv_iadd G0.1 G0.2.1 dX12_readValley_75 ?_
              refine lv_topi (fun x_367 ex_367 => ?_)
              first | have tx_367 := ti_add ex_367 (by omega -splitDisjunctions) (by omega -splitDisjunctions) | skip
              refine py_put (C := RX12) (T := TX12) (N := 54) (k := 3) (v := .int x_367) (fs' := [.int v_211, .ref (G.2 u 1), .int v_212, .int x_367, .int v_354, .int v_215, .ref (G.2 u 6), .ref (G.2 u 7), .ref (G.2 u 8), .ref (G.2 u 9), .ref (G.2 u 10), .ref (G.2 u 11), .ref (G.2 u 12), .int v_216, .int v_217, .ref (G.2 u 15), .ref (G.2 u 16), .ref (G.2 u 17), .ref (G.2 u 18), .int v_355, .int v_356, .ref (G.2 u 21), .ref (G.2 u 22), .ref (G.2 u 23), .int v_220, .int v_221, .ref (G.2 u 26), .ref (G.2 u 27), .ref (G.2 u 28), .int v_222, .long y_223, .int v_224, .int v_225, .int v_226, .int v_227, .ref (G.2 u 35), .ref (G.2 u 36), .ref (G.2 u 37), .ref (G.2 u 38), .ref (G.2 u 39), .ref (G.2 u 40), .ref (G.2 u 41), .ref (G.2 u 42), .int v_228, .ref (G.2 u 44), .ref (G.2 u 45), .ref (G.2 u 46), .ref (G.2 u 47), .long y_229, .ref (G.2 u 49), .ref (G.2 u 50), .int v_230, .long y_231, .int v_232]) (ty0 := tyX12) G0 hw tyX12_ok nmX12 in_X12_readValley_X12 rfl hr_357 (by decide) (by decide +kernel) rfl rfl rfl rfl (Nat.le_of_ble_eq_true rfl) rfl dX12_readValley_76 (fun f_368 H_369 locs h_370 x_371 hw => ?_)
              have hRF : mi f_368 u 4 = -1 → RFm f_368 G u (mi f_368 u 20) := fun hw => (hRF (by have z1 := mi_row hr_357 4 rfl; have z2 := mi_row h_370 4 rfl; omega)).same (x_371 _ (hWF _ (by rw [(wt12_18 hG Tu)]; decide)).1 (wf_ne (wt12_18 hG Tu) Tu (by decide))).2 (by have z1 := mi_row hr_357 20 rfl; have z2 := mi_row h_370 20 rfl; omega)
              have hFK := hFK.put hr_357 h_370 3 (by decide) rfl
              have hKP := hKP.upd hWF x_371 Tu (Or.inl (by decide))
              have hWF := wf_upd hWF h_370 x_371 (by rw [Tu]; exact ⟨v_211, v_212, x_367, v_354, v_215, v_216, v_217, v_355, v_356, v_220, v_221, v_222, y_223, v_224, v_225, v_226, v_227, v_228, y_229, v_230, y_231, v_232, rfl, ⟨by omega, by omega⟩, ⟨by omega, by omega⟩, ⟨by omega, by omega⟩, ⟨by omega, by omega⟩, ⟨by omega, by omega⟩, ⟨by omega, by omega⟩, ⟨by omega, by omega⟩, ⟨by omega, by omega⟩, ⟨by omega, by omega⟩, ⟨by omega, by omega⟩, ⟨by omega, by omega⟩, ⟨by omega, by omega⟩⟩)
              have tq_372 := mi_row h_370 2 rfl
              have tq_373 := mi_row h_370 3 rfl
              have bx_367 := wf_free x_367
              have tq_374 := mi_row h_370 4 rfl
              have bv_354 := wf_free v_354
              have tq_375 := mi_row h_370 19 rfl
              have tq_376 := mi_row h_370 20 rfl
              refine lv_goto (tgt := 22) G0.1 G0.2.1 dX12_readValley_79 (by decide) ?_
              exact ih_22 ((mi f u 2 - mi f_368 u 3).toNat + (0 : Int32).toInt.toNat) (by omega) 0 L_344 f_368 _ _ ls rfl ⟨by omega, by omega⟩ hWF hKP hFK hRF (by first | omega | (intros; omega)) hw (lv_sub hl [0, 1] rfl)
            · skip
              exact absurd c_366 (by decide)
          · skip
            have tc_365 := ti_eq c_365
            refine lv_aload_n G0.1 G0.2.1 dX12_readValley_46 rfl (lv_at hl 1 rfl) ?_
            refine py_calli hw (va_runV (As := []) (rest := []) G0 (c_X12_look l E G L_344 f_345 H_346.size u hG hWF Tu (show 0 ≤ mi f_345 u 3 ∧ mi f_345 u 3 ≤ mi f_345 u 2 by omega)) (cwV 0 G0.2.2.2.2 g_X12_readValley_X12_look_146 rfl rfl rfl (by decide +kernel) ⟨(Nat.le_of_ble_eq_true rfl), (Nat.le_of_ble_eq_true rfl)⟩) (py_preV hw (C := RX12) (T := TX12) (N := 54) rfl hr_357) rfl rfl hl.1 rfl (lv_room (Nat.le_of_ble_eq_true rfl)) dX12_readValley_47 ⟨(Nat.le_of_ble_eq_true rfl), (Nat.le_of_ble_eq_true rfl)⟩) (fun r_381 L_377 f_378 H_379 locs hp_380 hw => ?_)
            obtain ⟨en_382, en_383, en_384, hWF, kp_385, fk_386⟩ := hp_380
            have hRF : mi f_378 u 4 = -1 → RFm f_378 G u (mi f_378 u 20) := fun hw => (hRF (by first | (have hz := fk_mi fk_386 4 (by decide) (by decide); omega) | omega)).same (kp_f kp_385 (wt12_18 hG Tu) (by decide) (by decide) (fun _ => by decide)) (fk_mi fk_386 20 (by decide) (by decide))
            have hFK := hFK.trans fk_386 (by decide)
            have hKP := hKP.trans kp_385 (by decide) (by decide)
            obtain ⟨v_387, hr_388⟩ := fk_3 hWF Tu fk_386 hr_357
            have tq_389 := mi_row hr_388 2 rfl
            have tq_390 := mi_row hr_388 3 rfl
            have bv_387 := wf_free v_387
            have tq_391 := mi_row hr_388 4 rfl
            have bv_354 := wf_free v_354
            have tq_392 := mi_row hr_388 19 rfl
            have tq_393 := mi_row hr_388 20 rfl
            have br_381 := wf_free r_381
            refine lv_bipush (v := 59) G0.1 G0.2.1 dX12_readValley_50 (by decide) ?_
            refine lv_icmp_ne (tgt := 59) G0.1 G0.2.1 dX12_readValley_52 (by decide) (fun c_394 => ?_) (fun c_394 => ?_)
            · skip
              have tc_394 := ti_ne c_394
              refine lv_iconst (v := 0) G0.1 G0.2.1 dX12_readValley_59 (by decide) ?_
              refine lv_istore_n (lv' := [(1, .int 0), (0, .ref u)]) G0.1 G0.2.1 dX12_readValley_60 rfl hl (by decide) rfl (fun ls hl => ?_)
              refine lv_aload_n G0.1 G0.2.1 dX12_readValley_61 rfl (lv_at hl 1 rfl) ?_
              refine lv_dup G0.1 G0.2.1 dX12_readValley_62 rfl ?_
              refine py_get (C := RX12) (T := TX12) (N := 54) (k := 3) (v := .int v_387) G0 hw in_X12_readValley_X12 rfl hr_388 (by decide) (by decide +kernel) rfl dX12_readValley_63 ?_
              refine lv_iload_n G0.1 G0.2.1 dX12_readValley_66 rfl (lv_at hl 0 rfl) ?_
              refine lv_if_eq (tgt := 74) G0.1 G0.2.1 dX12_readValley_67 (by decide) (fun c_395 => ?_) (fun c_395 => ?_)
              · skip
                have tc_395 := ti_eq c_395
                refine lv_iconst (v := 0) G0.1 G0.2.1 dX12_readValley_74 (by decide) ?_
                refine lv_iadd G0.1 G0.2.1 dX12_readValley_75 ?_
                refine lv_topi (fun x_396 ex_396 => ?_)
                first | have tx_396 := ti_add ex_396 (by omega -splitDisjunctions) (by omega -splitDisjunctions) | skip
                refine py_put (C := RX12) (T := TX12) (N := 54) (k := 3) (v := .int x_396) (fs' := [.int v_211, .ref (G.2 u 1), .int v_212, .int x_396, .int v_354, .int v_215, .ref (G.2 u 6), .ref (G.2 u 7), .ref (G.2 u 8), .ref (G.2 u 9), .ref (G.2 u 10), .ref (G.2 u 11), .ref (G.2 u 12), .int v_216, .int v_217, .ref (G.2 u 15), .ref (G.2 u 16), .ref (G.2 u 17), .ref (G.2 u 18), .int v_355, .int v_356, .ref (G.2 u 21), .ref (G.2 u 22), .ref (G.2 u 23), .int v_220, .int v_221, .ref (G.2 u 26), .ref (G.2 u 27), .ref (G.2 u 28), .int v_222, .long y_223, .int v_224, .int v_225, .int v_226, .int v_227, .ref (G.2 u 35), .ref (G.2 u 36), .ref (G.2 u 37), .ref (G.2 u 38), .ref (G.2 u 39), .ref (G.2 u 40), .ref (G.2 u 41), .ref (G.2 u 42), .int v_228, .ref (G.2 u 44), .ref (G.2 u 45), .ref (G.2 u 46), .ref (G.2 u 47), .long y_229, .ref (G.2 u 49), .ref (G.2 u 50), .int v_230, .long y_231, .int v_232]) (ty0 := tyX12) G0 hw tyX12_ok nmX12 in_X12_readValley_X12 rfl hr_388 (by decide) (by decide +kernel) rfl rfl rfl rfl (Nat.le_of_ble_eq_true rfl) rfl dX12_readValley_76 (fun f_397 H_398 locs h_399 x_400 hw => ?_)
                have hRF : mi f_397 u 4 = -1 → RFm f_397 G u (mi f_397 u 20) := fun hw => (hRF (by have z1 := mi_row hr_388 4 rfl; have z2 := mi_row h_399 4 rfl; omega)).same (x_400 _ (hWF _ (by rw [(wt12_18 hG Tu)]; decide)).1 (wf_ne (wt12_18 hG Tu) Tu (by decide))).2 (by have z1 := mi_row hr_388 20 rfl; have z2 := mi_row h_399 20 rfl; omega)
                have hFK := hFK.put hr_388 h_399 3 (by decide) rfl
                have hKP := hKP.upd hWF x_400 Tu (Or.inl (by decide))
                have hWF := wf_upd hWF h_399 x_400 (by rw [Tu]; exact ⟨v_211, v_212, x_396, v_354, v_215, v_216, v_217, v_355, v_356, v_220, v_221, v_222, y_223, v_224, v_225, v_226, v_227, v_228, y_229, v_230, y_231, v_232, rfl, ⟨by omega, by omega⟩, ⟨by omega, by omega⟩, ⟨by omega, by omega⟩, ⟨by omega, by omega⟩, ⟨by omega, by omega⟩, ⟨by omega, by omega⟩, ⟨by omega, by omega⟩, ⟨by omega, by omega⟩, ⟨by omega, by omega⟩, ⟨by omega, by omega⟩, ⟨by omega, by omega⟩, ⟨by omega, by omega⟩⟩)
                have tq_401 := mi_row h_399 2 rfl
                have tq_402 := mi_row h_399 3 rfl
                have bx_396 := wf_free x_396
                have tq_403 := mi_row h_399 4 rfl
                have bv_354 := wf_free v_354
                have tq_404 := mi_row h_399 19 rfl
                have tq_405 := mi_row h_399 20 rfl
                refine lv_goto (tgt := 22) G0.1 G0.2.1 dX12_readValley_79 (by decide) ?_
                exact ih_22 ((mi f u 2 - mi f_397 u 3).toNat + (0 : Int32).toInt.toNat) (by omega) 0 L_377 f_397 _ _ ls rfl ⟨by omega, by omega⟩ hWF hKP hFK hRF (by first | omega | (intros; omega)) hw (lv_sub hl [0, 1] rfl)
              · skip
                exact absurd c_395 (by decide)
            · skip
              have tc_394 := ti_eq c_394
              replace en_383 := en_383 (by omega)
              refine lv_iconst (v := 1) G0.1 G0.2.1 dX12_readValley_55 (by decide) ?_
              refine lv_goto (tgt := 60) G0.1 G0.2.1 dX12_readValley_56 (by decide) ?_
              refine lv_istore_n (lv' := [(1, .int 1), (0, .ref u)]) G0.1 G0.2.1 dX12_readValley_60 rfl hl (by decide) rfl (fun ls hl => ?_)
              refine lv_aload_n G0.1 G0.2.1 dX12_readValley_61 rfl (lv_at hl 1 rfl) ?_
              refine lv_dup G0.1 G0.2.1 dX12_readValley_62 rfl ?_
              refine py_get (C := RX12) (T := TX12) (N := 54) (k := 3) (v := .int v_387) G0 hw in_X12_readValley_X12 rfl hr_388 (by decide) (by decide +kernel) rfl dX12_readValley_63 ?_
              refine lv_iload_n G0.1 G0.2.1 dX12_readValley_66 rfl (lv_at hl 0 rfl) ?_
              refine lv_if_eq (tgt := 74) G0.1 G0.2.1 dX12_readValley_67 (by decide) (fun c_406 => ?_) (fun c_406 => ?_)
              · skip
                exact absurd c_406 (by decide)
              · skip
                have tc_406 := ti_ne c_406
                refine lv_iconst (v := 1) G0.1 G0.2.1 dX12_readValley_70 (by decide) ?_
                refine lv_goto (tgt := 75) G0.1 G0.2.1 dX12_readValley_71 (by decide) ?_
                refine lv_iadd G0.1 G0.2.1 dX12_readValley_75 ?_
                refine lv_topi (fun x_407 ex_407 => ?_)
                first | have tx_407 := ti_add ex_407 (by omega -splitDisjunctions) (by omega -splitDisjunctions) | skip
                refine py_put (C := RX12) (T := TX12) (N := 54) (k := 3) (v := .int x_407) (fs' := [.int v_211, .ref (G.2 u 1), .int v_212, .int x_407, .int v_354, .int v_215, .ref (G.2 u 6), .ref (G.2 u 7), .ref (G.2 u 8), .ref (G.2 u 9), .ref (G.2 u 10), .ref (G.2 u 11), .ref (G.2 u 12), .int v_216, .int v_217, .ref (G.2 u 15), .ref (G.2 u 16), .ref (G.2 u 17), .ref (G.2 u 18), .int v_355, .int v_356, .ref (G.2 u 21), .ref (G.2 u 22), .ref (G.2 u 23), .int v_220, .int v_221, .ref (G.2 u 26), .ref (G.2 u 27), .ref (G.2 u 28), .int v_222, .long y_223, .int v_224, .int v_225, .int v_226, .int v_227, .ref (G.2 u 35), .ref (G.2 u 36), .ref (G.2 u 37), .ref (G.2 u 38), .ref (G.2 u 39), .ref (G.2 u 40), .ref (G.2 u 41), .ref (G.2 u 42), .int v_228, .ref (G.2 u 44), .ref (G.2 u 45), .ref (G.2 u 46), .ref (G.2 u 47), .long y_229, .ref (G.2 u 49), .ref (G.2 u 50), .int v_230, .long y_231, .int v_232]) (ty0 := tyX12) G0 hw tyX12_ok nmX12 in_X12_readValley_X12 rfl hr_388 (by decide) (by decide +kernel) rfl rfl rfl rfl (Nat.le_of_ble_eq_true rfl) rfl dX12_readValley_76 (fun f_408 H_409 locs h_410 x_411 hw => ?_)
                have hRF : mi f_408 u 4 = -1 → RFm f_408 G u (mi f_408 u 20) := fun hw => (hRF (by have z1 := mi_row hr_388 4 rfl; have z2 := mi_row h_410 4 rfl; omega)).same (x_411 _ (hWF _ (by rw [(wt12_18 hG Tu)]; decide)).1 (wf_ne (wt12_18 hG Tu) Tu (by decide))).2 (by have z1 := mi_row hr_388 20 rfl; have z2 := mi_row h_410 20 rfl; omega)
                have hFK := hFK.put hr_388 h_410 3 (by decide) rfl
                have hKP := hKP.upd hWF x_411 Tu (Or.inl (by decide))
                have hWF := wf_upd hWF h_410 x_411 (by rw [Tu]; exact ⟨v_211, v_212, x_407, v_354, v_215, v_216, v_217, v_355, v_356, v_220, v_221, v_222, y_223, v_224, v_225, v_226, v_227, v_228, y_229, v_230, y_231, v_232, rfl, ⟨by omega, by omega⟩, ⟨by omega, by omega⟩, ⟨by omega, by omega⟩, ⟨by omega, by omega⟩, ⟨by omega, by omega⟩, ⟨by omega, by omega⟩, ⟨by omega, by omega⟩, ⟨by omega, by omega⟩, ⟨by omega, by omega⟩, ⟨by omega, by omega⟩, ⟨by omega, by omega⟩, ⟨by omega, by omega⟩⟩)
                have tq_412 := mi_row h_410 2 rfl
                have tq_413 := mi_row h_410 3 rfl
                have bx_407 := wf_free x_407
                have tq_414 := mi_row h_410 4 rfl
                have bv_354 := wf_free v_354
                have tq_415 := mi_row h_410 19 rfl
                have tq_416 := mi_row h_410 20 rfl
                refine lv_goto (tgt := 22) G0.1 G0.2.1 dX12_readValley_79 (by decide) ?_
                exact ih_22 ((mi f u 2 - mi f_408 u 3).toNat + (1 : Int32).toInt.toNat) (by omega) 1 L_377 f_408 _ _ ls rfl ⟨by omega, by omega⟩ hWF hKP hFK hRF (by first | omega | (intros; omega)) hw (lv_sub hl [0, 1] rfl)
  exact lo_22 _ 1 L f_68 _ _ ls rfl ⟨by omega, by omega⟩ hWF hKP hFK hRF (by first | omega | (intros; omega)) hw (lv_sub hl [0, 1] rfl)

def w_X12_takeValley : List Cond := .code yX12_takeValley cX12_takeValley 3 (some .int) :: ([Cond.fieldLink RX12 264 "HeadYearModel" "readLevels" "I", Cond.fieldLink RX12 302 "HeadYearModel" "levels" "I", Cond.fieldLink RX12 267 "HeadYearModel" "readFamilies" "I", Cond.fieldLink RX12 290 "HeadYearModel" "families" "I", Cond.fieldLink RX12 309 "HeadYearModel" "years" "I", Cond.fieldLink RX12 312 "HeadYearModel" "buys" "I", Cond.fieldLink RX12 315 "HeadYearModel" "hasImage" "Z", Cond.fieldLink RX12 43 "HeadYearModel" "readFamily" "[I", Cond.methodLink RX12 299 yX12_emptyHut, Cond.instanceMethod yX12_emptyHut, Cond.selects RX12 yX12_emptyHut yX12_emptyHut, Cond.initialized RX12, Cond.methodLink RX12 305 yX12_tell, Cond.instanceMethod yX12_tell, Cond.selects RX12 yX12_tell yX12_tell, Cond.fieldLink RX12 49 "HeadYearModel" "birth" "[I", Cond.fieldLink RX12 52 "HeadYearModel" "twin" "[I", Cond.fieldLink RX12 55 "HeadYearModel" "now" "[I", Cond.fieldLink RX12 46 "HeadYearModel" "levelRow" "[I", Cond.fieldLink RX12 40 "HeadYearModel" "readLevel" "[I"] ++ (u_ws RX12 TX12 54 ++ (w_X12_emptyHut ++ (w_X12_tell ++ ([])))))
theorem in_X12_takeValley_X12 : ∀ w ∈ u_ws RX12 TX12 54, w ∈ w_X12_takeValley := fun _ h => List.mem_cons_of_mem _ (List.mem_append_right _ (List.mem_append_left _ h))
theorem gg_X12_takeValley_X12_emptyHut : GoodIn w_X12_takeValley w_X12_emptyHut := goodIn_sub (fun _ h => List.mem_cons_of_mem _ (List.mem_append_right _ (List.mem_append_right _ (List.mem_append_left _ h)))) (by decide +kernel)
theorem gg_X12_takeValley_X12_tell : GoodIn w_X12_takeValley w_X12_tell := goodIn_sub (fun _ h => List.mem_cons_of_mem _ (List.mem_append_right _ (List.mem_append_right _ (List.mem_append_right _ (List.mem_append_left _ h))))) (by decide +kernel)
theorem g_X12_takeValley_X12_emptyHut_299 : GoodIn w_X12_takeValley (wsV RX12 299 RX12 yX12_emptyHut w_X12_emptyHut) := goodIn_app (goodIn_of _ (by decide +kernel)) gg_X12_takeValley_X12_emptyHut
theorem g_X12_takeValley_X12_tell_305 : GoodIn w_X12_takeValley (wsV RX12 305 RX12 yX12_tell w_X12_tell) := goodIn_app (goodIn_of _ (by decide +kernel)) gg_X12_takeValley_X12_tell
set_option maxHeartbeats 4000000 in
set_option maxRecDepth 100000 in
theorem c_X12_takeValley (l : Launch) (E : py_E) (G : wf_G) (L : List Nat) (f : py_F) (sz : Nat) (u : Nat) (hG : GT G) (hWF : WF E G L f) (Tu : G.1 u = 13) (hq0 : RFm f G u (mi f u 20)) : Met l yX12_takeValley w_X12_takeValley ({ frames := 3, cells := 0, slots := 0, locals := 69 }) (py_Pc E [.ref u] L f sz) (py_Qi E L f sz (fun _ L1 f1 => WF E G L1 f1 ∧ KP G [52, 55, 53, 54, 13] false f f1 ∧ FK [24, 25, 29, 43, 53] f f1 u)) 0 0 (va_A (va_pl L f) sz) := by
  refine Met.ofW (cc := cX12_takeValley) (maxL := 3) (ret := (some .int)) (by decide) rfl ?_
  intro p e s m args below meth c s₁ B hml hv
  obtain ⟨rfl, rfl, hw⟩ := py_start hv
  have G0 : CallFix p m c cX12_takeValley 3 s _ w_X12_takeValley RX12 := ⟨B.exec, B.bytes, hml, findClass_of_methodNamed B.named, atoms_spec (ws := w_X12_takeValley) B.pre⟩
  have hr := B.returns
  have hlk := B.notSynchronized
  have kcm1 : (-1 : Int32).toInt = -1 := rfl
  have kc0 : (0 : Int32).toInt = 0 := rfl
  have kc1 : (1 : Int32).toInt = 1 := rfl
  have kc2 : (2 : Int32).toInt = 2 := rfl
  have kc3 : (3 : Int32).toInt = 3 := rfl
  have kc4 : (4 : Int32).toInt = 4 := rfl
  have kc32 : (32 : Int32).toInt = 32 := rfl
  have kc90 : (90 : Int32).toInt = 90 := rfl
  have hl := lv_entry ([.ref u]) (n := 3) (Nat.le_of_ble_eq_true rfl)
  rw [lg_entry_eq]
  generalize (lg_sl ([.ref u]) ++ List.replicate (3 - (lg_sl ([.ref u])).length) Slot.unset).toArray = ls at hl ⊢
  have hl : lv_has ls 3 [(0, .ref u)] := hl
  have hFK : FK [24, 25, 29, 43, 53] f f u := FK.refl
  have hKP : KP G [52, 55, 53, 54, 13] false f f := KP.refl
  have hR := hq0
  refine lv_aload_n G0.1 G0.2.1 dX12_takeValley_0 rfl (lv_at hl 0 rfl) ?_
  refine lv_aload_n G0.1 G0.2.1 dX12_takeValley_1 rfl (lv_at hl 0 rfl) ?_
  obtain ⟨v_1, v_2, v_3, v_4, v_5, v_6, v_7, v_8, v_9, v_10, v_11, v_12, y_13, v_14, v_15, v_16, v_17, v_18, y_19, v_20, y_21, v_22, hr_35, b_23, b_24, b_25, b_26, b_27, b_28, b_29, b_30, b_31, b_32, b_33, b_34⟩ := wg_12 hWF Tu
  have tq_36 := mi_row hr_35 20 rfl
  have tq_37 := mi_row hr_35 25 rfl
  refine py_get (C := RX12) (T := TX12) (N := 54) (k := 19) (v := .int v_8) G0 hw in_X12_takeValley_X12 rfl hr_35 (by decide) (by decide +kernel) rfl dX12_takeValley_2 ?_
  refine py_put (C := RX12) (T := TX12) (N := 54) (k := 24) (v := .int v_8) (fs' := [.int v_1, .ref (G.2 u 1), .int v_2, .int v_3, .int v_4, .int v_5, .ref (G.2 u 6), .ref (G.2 u 7), .ref (G.2 u 8), .ref (G.2 u 9), .ref (G.2 u 10), .ref (G.2 u 11), .ref (G.2 u 12), .int v_6, .int v_7, .ref (G.2 u 15), .ref (G.2 u 16), .ref (G.2 u 17), .ref (G.2 u 18), .int v_8, .int v_9, .ref (G.2 u 21), .ref (G.2 u 22), .ref (G.2 u 23), .int v_8, .int v_11, .ref (G.2 u 26), .ref (G.2 u 27), .ref (G.2 u 28), .int v_12, .long y_13, .int v_14, .int v_15, .int v_16, .int v_17, .ref (G.2 u 35), .ref (G.2 u 36), .ref (G.2 u 37), .ref (G.2 u 38), .ref (G.2 u 39), .ref (G.2 u 40), .ref (G.2 u 41), .ref (G.2 u 42), .int v_18, .ref (G.2 u 44), .ref (G.2 u 45), .ref (G.2 u 46), .ref (G.2 u 47), .long y_19, .ref (G.2 u 49), .ref (G.2 u 50), .int v_20, .long y_21, .int v_22]) (ty0 := tyX12) G0 hw tyX12_ok nmX12 in_X12_takeValley_X12 rfl hr_35 (by decide) (by decide +kernel) rfl rfl rfl rfl (Nat.le_of_ble_eq_true rfl) rfl dX12_takeValley_5 (fun f_38 H_39 locs h_40 x_41 hw => ?_)
  have hR := hR.same ((x_41 _ (hWF _ (by rw [(wt12_18 hG Tu)]; decide)).1 (wf_ne (wt12_18 hG Tu) Tu (by decide))).2) rfl
  have hFK := hFK.put hr_35 h_40 24 (by decide) rfl
  have hKP := hKP.upd hWF x_41 Tu (Or.inl (by decide))
  have hWF := wf_upd hWF h_40 x_41 (by rw [Tu]; exact ⟨v_1, v_2, v_3, v_4, v_5, v_6, v_7, v_8, v_9, v_8, v_11, v_12, y_13, v_14, v_15, v_16, v_17, v_18, y_19, v_20, y_21, v_22, rfl, ⟨by omega, by omega⟩, ⟨by omega, by omega⟩, ⟨by omega, by omega⟩, ⟨by omega, by omega⟩, ⟨by omega, by omega⟩, ⟨by omega, by omega⟩, ⟨by omega, by omega⟩, ⟨by omega, by omega⟩, ⟨by omega, by omega⟩, ⟨by omega, by omega⟩, ⟨by omega, by omega⟩, ⟨by omega, by omega⟩⟩)
  have tq_42 := mi_row h_40 20 rfl
  have tq_43 := mi_row h_40 25 rfl
  refine lv_aload_n G0.1 G0.2.1 dX12_takeValley_8 rfl (lv_at hl 0 rfl) ?_
  refine lv_aload_n G0.1 G0.2.1 dX12_takeValley_9 rfl (lv_at hl 0 rfl) ?_
  refine py_get (C := RX12) (T := TX12) (N := 54) (k := 20) (v := .int v_9) G0 hw in_X12_takeValley_X12 rfl h_40 (by decide) (by decide +kernel) rfl dX12_takeValley_10 ?_
  refine py_put (C := RX12) (T := TX12) (N := 54) (k := 25) (v := .int v_9) (fs' := [.int v_1, .ref (G.2 u 1), .int v_2, .int v_3, .int v_4, .int v_5, .ref (G.2 u 6), .ref (G.2 u 7), .ref (G.2 u 8), .ref (G.2 u 9), .ref (G.2 u 10), .ref (G.2 u 11), .ref (G.2 u 12), .int v_6, .int v_7, .ref (G.2 u 15), .ref (G.2 u 16), .ref (G.2 u 17), .ref (G.2 u 18), .int v_8, .int v_9, .ref (G.2 u 21), .ref (G.2 u 22), .ref (G.2 u 23), .int v_8, .int v_9, .ref (G.2 u 26), .ref (G.2 u 27), .ref (G.2 u 28), .int v_12, .long y_13, .int v_14, .int v_15, .int v_16, .int v_17, .ref (G.2 u 35), .ref (G.2 u 36), .ref (G.2 u 37), .ref (G.2 u 38), .ref (G.2 u 39), .ref (G.2 u 40), .ref (G.2 u 41), .ref (G.2 u 42), .int v_18, .ref (G.2 u 44), .ref (G.2 u 45), .ref (G.2 u 46), .ref (G.2 u 47), .long y_19, .ref (G.2 u 49), .ref (G.2 u 50), .int v_20, .long y_21, .int v_22]) (ty0 := tyX12) G0 hw tyX12_ok nmX12 in_X12_takeValley_X12 rfl h_40 (by decide) (by decide +kernel) rfl rfl rfl rfl (Nat.le_of_ble_eq_true rfl) rfl dX12_takeValley_13 (fun f_44 H_45 locs h_46 x_47 hw => ?_)
  have hR := hR.same ((x_47 _ (hWF _ (by rw [(wt12_18 hG Tu)]; decide)).1 (wf_ne (wt12_18 hG Tu) Tu (by decide))).2) rfl
  have hFK := hFK.put h_40 h_46 25 (by decide) rfl
  have hKP := hKP.upd hWF x_47 Tu (Or.inl (by decide))
  have hWF := wf_upd hWF h_46 x_47 (by rw [Tu]; exact ⟨v_1, v_2, v_3, v_4, v_5, v_6, v_7, v_8, v_9, v_8, v_9, v_12, y_13, v_14, v_15, v_16, v_17, v_18, y_19, v_20, y_21, v_22, rfl, ⟨by omega, by omega⟩, ⟨by omega, by omega⟩, ⟨by omega, by omega⟩, ⟨by omega, by omega⟩, ⟨by omega, by omega⟩, ⟨by omega, by omega⟩, ⟨by omega, by omega⟩, ⟨by omega, by omega⟩, ⟨by omega, by omega⟩, ⟨by omega, by omega⟩, ⟨by omega, by omega⟩, ⟨by omega, by omega⟩⟩)
  have tq_48 := mi_row h_46 20 rfl
  have tq_49 := mi_row h_46 25 rfl
  refine lv_iconst (v := 0) G0.1 G0.2.1 dX12_takeValley_16 (by decide) ?_
  refine lv_istore_n (lv' := [(1, .int 0), (0, .ref u)]) G0.1 G0.2.1 dX12_takeValley_17 rfl hl (by decide) rfl (fun ls hl => ?_)
  have lo_18 : ∀ n_18 : Nat, ∀ (v_50 : Int32) (L_j18 : List Nat) (f_j18 : py_F) (H_j18 : Heap) (locs : List Loc) (ls : Array Slot), (2147483647 - v_50.toInt).toNat = n_18 → (0 ≤ v_50.toInt ∧ v_50.toInt ≤ 2147483647) → WF E G L_j18 f_j18 → KP G [52, 55, 53, 54, 13] false f f_j18 → RFm f_j18 G u (mi f u 20) → FK [24, 25, 29, 43, 53] f f_j18 u → (mi f_j18 u 25 = mi f u 20) → py_W E (va_A (va_pl L f) s.heap.size) s L_j18 f_j18 H_j18 locs → lv_has ls 3 [(1, .int v_50), (0, .ref u)] → W p l e (headSpec w_X12_takeValley ({ frames := 3, cells := 0, slots := 0, locals := 69 })).room s m ([.ref u] : List Value).toArray below meth c H_j18 locs 0 0 (MQ below (py_Qi E L f s.heap.size (fun _ L1 f1 => WF E G L1 f1 ∧ KP G [52, 55, 53, 54, 13] false f f1 ∧ FK [24, 25, 29, 43, 53] f f1 u)) ([.ref u] : List Value).toArray s 0 0 (va_A (va_pl L f) s.heap.size)) (F0 m 18 ls []) := by
    intro n_18
    induction n_18 using Nat.strongRecOn with
    | _ n_18 ih_18 =>
      intro v_50 L_j18 f_j18 H_j18 locs ls hn_18 bv_50 hWF hKP hR hFK iv0 hw hl
      refine lv_iload_n G0.1 G0.2.1 dX12_takeValley_18 rfl (lv_at hl 0 rfl) ?_
      refine lv_bipush (v := 32) G0.1 G0.2.1 dX12_takeValley_19 (by decide) ?_
      refine lv_icmp_ge (tgt := 42) G0.1 G0.2.1 dX12_takeValley_21 (by decide) (fun c_51 => ?_) (fun c_51 => ?_)
      · skip
        have tc_51 := ti_le c_51
        refine lv_iconst (v := 0) G0.1 G0.2.1 dX12_takeValley_42 (by decide) ?_
        refine lv_istore_n (lv' := [(1, .int 0), (0, .ref u)]) G0.1 G0.2.1 dX12_takeValley_43 rfl hl (by decide) rfl (fun ls hl => ?_)
        have lo_44 : ∀ n_44 : Nat, ∀ (v_52 : Int32) (L_j44 : List Nat) (f_j44 : py_F) (H_j44 : Heap) (locs : List Loc) (ls : Array Slot), (2147483647 - v_52.toInt).toNat = n_44 → (0 ≤ v_52.toInt ∧ v_52.toInt ≤ 2147483647) → WF E G L_j44 f_j44 → KP G [52, 55, 53, 54, 13] false f f_j44 → RFm f_j44 G u (mi f u 20) → FK [24, 25, 29, 43, 53] f f_j44 u → (mi f_j44 u 25 = mi f u 20) → py_W E (va_A (va_pl L f) s.heap.size) s L_j44 f_j44 H_j44 locs → lv_has ls 3 [(1, .int v_52), (0, .ref u)] → W p l e (headSpec w_X12_takeValley ({ frames := 3, cells := 0, slots := 0, locals := 69 })).room s m ([.ref u] : List Value).toArray below meth c H_j44 locs 0 0 (MQ below (py_Qi E L f s.heap.size (fun _ L1 f1 => WF E G L1 f1 ∧ KP G [52, 55, 53, 54, 13] false f f1 ∧ FK [24, 25, 29, 43, 53] f f1 u)) ([.ref u] : List Value).toArray s 0 0 (va_A (va_pl L f) s.heap.size)) (F0 m 44 ls []) := by
          intro n_44
          induction n_44 using Nat.strongRecOn with
          | _ n_44 ih_44 =>
            intro v_52 L_j44 f_j44 H_j44 locs ls hn_44 bv_52 hWF hKP hR hFK iv0 hw hl
            refine lv_iload_n G0.1 G0.2.1 dX12_takeValley_44 rfl (lv_at hl 0 rfl) ?_
            refine lv_bipush (v := 90) G0.1 G0.2.1 dX12_takeValley_45 (by decide) ?_
            refine lv_icmp_ge (tgt := 63) G0.1 G0.2.1 dX12_takeValley_47 (by decide) (fun c_53 => ?_) (fun c_53 => ?_)
            · skip
              have tc_53 := ti_le c_53
              refine lv_iconst (v := 0) G0.1 G0.2.1 dX12_takeValley_63 (by decide) ?_
              refine lv_istore_n (lv' := [(1, .int 0), (0, .ref u)]) G0.1 G0.2.1 dX12_takeValley_64 rfl hl (by decide) rfl (fun ls hl => ?_)
              have lo_65 : ∀ n_65 : Nat, ∀ (v_54 : Int32) (L_j65 : List Nat) (f_j65 : py_F) (H_j65 : Heap) (locs : List Loc) (ls : Array Slot), (2147483647 - v_54.toInt).toNat = n_65 → (0 ≤ v_54.toInt ∧ v_54.toInt ≤ 2147483647) → WF E G L_j65 f_j65 → KP G [52, 55, 53, 54, 13] false f f_j65 → RFm f_j65 G u (mi f u 20) → FK [24, 25, 29, 43, 53] f f_j65 u → (mi f_j65 u 25 = mi f u 20) → py_W E (va_A (va_pl L f) s.heap.size) s L_j65 f_j65 H_j65 locs → lv_has ls 3 [(1, .int v_54), (0, .ref u)] → W p l e (headSpec w_X12_takeValley ({ frames := 3, cells := 0, slots := 0, locals := 69 })).room s m ([.ref u] : List Value).toArray below meth c H_j65 locs 0 0 (MQ below (py_Qi E L f s.heap.size (fun _ L1 f1 => WF E G L1 f1 ∧ KP G [52, 55, 53, 54, 13] false f f1 ∧ FK [24, 25, 29, 43, 53] f f1 u)) ([.ref u] : List Value).toArray s 0 0 (va_A (va_pl L f) s.heap.size)) (F0 m 65 ls []) := by
                intro n_65
                induction n_65 using Nat.strongRecOn with
                | _ n_65 ih_65 =>
                  intro v_54 L_j65 f_j65 H_j65 locs ls hn_65 bv_54 hWF hKP hR hFK iv0 hw hl
                  refine lv_iload_n G0.1 G0.2.1 dX12_takeValley_65 rfl (lv_at hl 0 rfl) ?_
                  refine lv_aload_n G0.1 G0.2.1 dX12_takeValley_66 rfl (lv_at hl 1 rfl) ?_
                  obtain ⟨v_55, v_56, v_57, v_58, v_59, v_60, v_61, v_62, v_63, v_64, v_65, v_66, y_67, v_68, v_69, v_70, v_71, v_72, y_73, v_74, y_75, v_76, hr_89, b_77, b_78, b_79, b_80, b_81, b_82, b_83, b_84, b_85, b_86, b_87, b_88⟩ := wg_12 hWF Tu
                  have tq_90 := mi_row hr_89 20 rfl
                  have tq_91 := mi_row hr_89 25 rfl
                  refine py_get (C := RX12) (T := TX12) (N := 54) (k := 25) (v := .int v_65) G0 hw in_X12_takeValley_X12 rfl hr_89 (by decide) (by decide +kernel) rfl dX12_takeValley_67 ?_
                  refine lv_icmp_ge (tgt := 86) G0.1 G0.2.1 dX12_takeValley_70 (by decide) (fun c_92 => ?_) (fun c_92 => ?_)
                  · skip
                    have tc_92 := ti_le c_92
                    refine lv_iconst (v := 0) G0.1 G0.2.1 dX12_takeValley_86 (by decide) ?_
                    refine lv_istore_n (lv' := [(1, .int 0), (0, .ref u)]) G0.1 G0.2.1 dX12_takeValley_87 rfl hl (by decide) rfl (fun ls hl => ?_)
                    have lo_88 : ∀ n_88 : Nat, ∀ (v_93 : Int32) (L_j88 : List Nat) (f_j88 : py_F) (H_j88 : Heap) (locs : List Loc) (ls : Array Slot), (2147483647 - v_93.toInt).toNat = n_88 → (0 ≤ v_93.toInt ∧ v_93.toInt ≤ 2147483647) → WF E G L_j88 f_j88 → KP G [52, 55, 53, 54, 13] false f f_j88 → RFm f_j88 G u (mi f u 20) → FK [24, 25, 29, 43, 53] f f_j88 u → (mi f_j88 u 25 = mi f u 20) → py_W E (va_A (va_pl L f) s.heap.size) s L_j88 f_j88 H_j88 locs → lv_has ls 3 [(1, .int v_93), (0, .ref u)] → W p l e (headSpec w_X12_takeValley ({ frames := 3, cells := 0, slots := 0, locals := 69 })).room s m ([.ref u] : List Value).toArray below meth c H_j88 locs 0 0 (MQ below (py_Qi E L f s.heap.size (fun _ L1 f1 => WF E G L1 f1 ∧ KP G [52, 55, 53, 54, 13] false f f1 ∧ FK [24, 25, 29, 43, 53] f f1 u)) ([.ref u] : List Value).toArray s 0 0 (va_A (va_pl L f) s.heap.size)) (F0 m 88 ls []) := by
                      intro n_88
                      induction n_88 using Nat.strongRecOn with
                      | _ n_88 ih_88 =>
                        intro v_93 L_j88 f_j88 H_j88 locs ls hn_88 bv_93 hWF hKP hR hFK iv0 hw hl
                        refine lv_iload_n G0.1 G0.2.1 dX12_takeValley_88 rfl (lv_at hl 0 rfl) ?_
                        refine lv_aload_n G0.1 G0.2.1 dX12_takeValley_89 rfl (lv_at hl 1 rfl) ?_
                        obtain ⟨v_94, v_95, v_96, v_97, v_98, v_99, v_100, v_101, v_102, v_103, v_104, v_105, y_106, v_107, v_108, v_109, v_110, v_111, y_112, v_113, y_114, v_115, hr_128, b_116, b_117, b_118, b_119, b_120, b_121, b_122, b_123, b_124, b_125, b_126, b_127⟩ := wg_12 hWF Tu
                        have tq_129 := mi_row hr_128 20 rfl
                        have tq_130 := mi_row hr_128 25 rfl
                        refine py_get (C := RX12) (T := TX12) (N := 54) (k := 25) (v := .int v_104) G0 hw in_X12_takeValley_X12 rfl hr_128 (by decide) (by decide +kernel) rfl dX12_takeValley_90 ?_
                        refine lv_icmp_ge (tgt := 178) G0.1 G0.2.1 dX12_takeValley_93 (by decide) (fun c_131 => ?_) (fun c_131 => ?_)
                        · skip
                          have tc_131 := ti_le c_131
                          refine lv_aload_n G0.1 G0.2.1 dX12_takeValley_178 rfl (lv_at hl 1 rfl) ?_
                          refine lv_iconst (v := 0) G0.1 G0.2.1 dX12_takeValley_179 (by decide) ?_
                          refine py_put (C := RX12) (T := TX12) (N := 54) (k := 29) (v := .int 0) (fs' := [.int v_94, .ref (G.2 u 1), .int v_95, .int v_96, .int v_97, .int v_98, .ref (G.2 u 6), .ref (G.2 u 7), .ref (G.2 u 8), .ref (G.2 u 9), .ref (G.2 u 10), .ref (G.2 u 11), .ref (G.2 u 12), .int v_99, .int v_100, .ref (G.2 u 15), .ref (G.2 u 16), .ref (G.2 u 17), .ref (G.2 u 18), .int v_101, .int v_102, .ref (G.2 u 21), .ref (G.2 u 22), .ref (G.2 u 23), .int v_103, .int v_104, .ref (G.2 u 26), .ref (G.2 u 27), .ref (G.2 u 28), .int 0, .long y_106, .int v_107, .int v_108, .int v_109, .int v_110, .ref (G.2 u 35), .ref (G.2 u 36), .ref (G.2 u 37), .ref (G.2 u 38), .ref (G.2 u 39), .ref (G.2 u 40), .ref (G.2 u 41), .ref (G.2 u 42), .int v_111, .ref (G.2 u 44), .ref (G.2 u 45), .ref (G.2 u 46), .ref (G.2 u 47), .long y_112, .ref (G.2 u 49), .ref (G.2 u 50), .int v_113, .long y_114, .int v_115]) (ty0 := tyX12) G0 hw tyX12_ok nmX12 in_X12_takeValley_X12 rfl hr_128 (by decide) (by decide +kernel) rfl rfl rfl rfl (Nat.le_of_ble_eq_true rfl) rfl dX12_takeValley_180 (fun f_132 H_133 locs h_134 x_135 hw => ?_)
                          have hR := hR.same ((x_135 _ (hWF _ (by rw [(wt12_18 hG Tu)]; decide)).1 (wf_ne (wt12_18 hG Tu) Tu (by decide))).2) rfl
                          have hFK := hFK.put hr_128 h_134 29 (by decide) rfl
                          have hKP := hKP.upd hWF x_135 Tu (Or.inl (by decide))
                          have hWF := wf_upd hWF h_134 x_135 (by rw [Tu]; exact ⟨v_94, v_95, v_96, v_97, v_98, v_99, v_100, v_101, v_102, v_103, v_104, 0, y_106, v_107, v_108, v_109, v_110, v_111, y_112, v_113, y_114, v_115, rfl, ⟨by omega, by omega⟩, ⟨by omega, by omega⟩, ⟨by omega, by omega⟩, ⟨by omega, by omega⟩, ⟨by omega, by omega⟩, ⟨by omega, by omega⟩, ⟨by omega, by omega⟩, ⟨by omega, by omega⟩, ⟨by omega, by omega⟩, ⟨by omega, by omega⟩, ⟨by omega, by omega⟩, ⟨by omega, by omega⟩⟩)
                          have tq_136 := mi_row h_134 20 rfl
                          have tq_137 := mi_row h_134 25 rfl
                          refine lv_aload_n G0.1 G0.2.1 dX12_takeValley_183 rfl (lv_at hl 1 rfl) ?_
                          refine lv_iconst (v := 0) G0.1 G0.2.1 dX12_takeValley_184 (by decide) ?_
                          refine py_put (C := RX12) (T := TX12) (N := 54) (k := 43) (v := .int 0) (fs' := [.int v_94, .ref (G.2 u 1), .int v_95, .int v_96, .int v_97, .int v_98, .ref (G.2 u 6), .ref (G.2 u 7), .ref (G.2 u 8), .ref (G.2 u 9), .ref (G.2 u 10), .ref (G.2 u 11), .ref (G.2 u 12), .int v_99, .int v_100, .ref (G.2 u 15), .ref (G.2 u 16), .ref (G.2 u 17), .ref (G.2 u 18), .int v_101, .int v_102, .ref (G.2 u 21), .ref (G.2 u 22), .ref (G.2 u 23), .int v_103, .int v_104, .ref (G.2 u 26), .ref (G.2 u 27), .ref (G.2 u 28), .int 0, .long y_106, .int v_107, .int v_108, .int v_109, .int v_110, .ref (G.2 u 35), .ref (G.2 u 36), .ref (G.2 u 37), .ref (G.2 u 38), .ref (G.2 u 39), .ref (G.2 u 40), .ref (G.2 u 41), .ref (G.2 u 42), .int 0, .ref (G.2 u 44), .ref (G.2 u 45), .ref (G.2 u 46), .ref (G.2 u 47), .long y_112, .ref (G.2 u 49), .ref (G.2 u 50), .int v_113, .long y_114, .int v_115]) (ty0 := tyX12) G0 hw tyX12_ok nmX12 in_X12_takeValley_X12 rfl h_134 (by decide) (by decide +kernel) rfl rfl rfl rfl (Nat.le_of_ble_eq_true rfl) rfl dX12_takeValley_185 (fun f_138 H_139 locs h_140 x_141 hw => ?_)
                          have hR := hR.same ((x_141 _ (hWF _ (by rw [(wt12_18 hG Tu)]; decide)).1 (wf_ne (wt12_18 hG Tu) Tu (by decide))).2) rfl
                          have hFK := hFK.put h_134 h_140 43 (by decide) rfl
                          have hKP := hKP.upd hWF x_141 Tu (Or.inl (by decide))
                          have hWF := wf_upd hWF h_140 x_141 (by rw [Tu]; exact ⟨v_94, v_95, v_96, v_97, v_98, v_99, v_100, v_101, v_102, v_103, v_104, 0, y_106, v_107, v_108, v_109, v_110, 0, y_112, v_113, y_114, v_115, rfl, ⟨by omega, by omega⟩, ⟨by omega, by omega⟩, ⟨by omega, by omega⟩, ⟨by omega, by omega⟩, ⟨by omega, by omega⟩, ⟨by omega, by omega⟩, ⟨by omega, by omega⟩, ⟨by omega, by omega⟩, ⟨by omega, by omega⟩, ⟨by omega, by omega⟩, ⟨by omega, by omega⟩, ⟨by omega, by omega⟩⟩)
                          have tq_142 := mi_row h_140 20 rfl
                          have tq_143 := mi_row h_140 25 rfl
                          refine lv_aload_n G0.1 G0.2.1 dX12_takeValley_188 rfl (lv_at hl 1 rfl) ?_
                          refine lv_iconst (v := 0) G0.1 G0.2.1 dX12_takeValley_189 (by decide) ?_
                          refine py_put (C := RX12) (T := TX12) (N := 54) (k := 53) (v := .int 0) (fs' := [.int v_94, .ref (G.2 u 1), .int v_95, .int v_96, .int v_97, .int v_98, .ref (G.2 u 6), .ref (G.2 u 7), .ref (G.2 u 8), .ref (G.2 u 9), .ref (G.2 u 10), .ref (G.2 u 11), .ref (G.2 u 12), .int v_99, .int v_100, .ref (G.2 u 15), .ref (G.2 u 16), .ref (G.2 u 17), .ref (G.2 u 18), .int v_101, .int v_102, .ref (G.2 u 21), .ref (G.2 u 22), .ref (G.2 u 23), .int v_103, .int v_104, .ref (G.2 u 26), .ref (G.2 u 27), .ref (G.2 u 28), .int 0, .long y_106, .int v_107, .int v_108, .int v_109, .int v_110, .ref (G.2 u 35), .ref (G.2 u 36), .ref (G.2 u 37), .ref (G.2 u 38), .ref (G.2 u 39), .ref (G.2 u 40), .ref (G.2 u 41), .ref (G.2 u 42), .int 0, .ref (G.2 u 44), .ref (G.2 u 45), .ref (G.2 u 46), .ref (G.2 u 47), .long y_112, .ref (G.2 u 49), .ref (G.2 u 50), .int v_113, .long y_114, .int 0]) (ty0 := tyX12) G0 hw tyX12_ok nmX12 in_X12_takeValley_X12 rfl h_140 (by decide) (by decide +kernel) rfl rfl rfl rfl (Nat.le_of_ble_eq_true rfl) rfl dX12_takeValley_190 (fun f_144 H_145 locs h_146 x_147 hw => ?_)
                          have hR := hR.same ((x_147 _ (hWF _ (by rw [(wt12_18 hG Tu)]; decide)).1 (wf_ne (wt12_18 hG Tu) Tu (by decide))).2) rfl
                          have hFK := hFK.put h_140 h_146 53 (by decide) rfl
                          have hKP := hKP.upd hWF x_147 Tu (Or.inl (by decide))
                          have hWF := wf_upd hWF h_146 x_147 (by rw [Tu]; exact ⟨v_94, v_95, v_96, v_97, v_98, v_99, v_100, v_101, v_102, v_103, v_104, 0, y_106, v_107, v_108, v_109, v_110, 0, y_112, v_113, y_114, 0, rfl, ⟨by omega, by omega⟩, ⟨by omega, by omega⟩, ⟨by omega, by omega⟩, ⟨by omega, by omega⟩, ⟨by omega, by omega⟩, ⟨by omega, by omega⟩, ⟨by omega, by omega⟩, ⟨by omega, by omega⟩, ⟨by omega, by omega⟩, ⟨by omega, by omega⟩, ⟨by omega, by omega⟩, ⟨by omega, by omega⟩⟩)
                          have tq_148 := mi_row h_146 20 rfl
                          have tq_149 := mi_row h_146 25 rfl
                          refine lv_aload_n G0.1 G0.2.1 dX12_takeValley_193 rfl (lv_at hl 1 rfl) ?_
                          refine py_get (C := RX12) (T := TX12) (N := 54) (k := 25) (v := .int v_104) G0 hw in_X12_takeValley_X12 rfl h_146 (by decide) (by decide +kernel) rfl dX12_takeValley_194 ?_
                          exact py_iret G0 hr rfl hlk hw ⟨hWF, hKP, hFK⟩ dX12_takeValley_197
                        · skip
                          have tc_131 := ti_nle c_131
                          refine lv_aload_n G0.1 G0.2.1 dX12_takeValley_96 rfl (lv_at hl 1 rfl) ?_
                          refine py_get (C := RX12) (T := TX12) (N := 54) (k := 18) (v := .ref (G.2 u 18)) G0 hw in_X12_takeValley_X12 rfl hr_128 (by decide) (by decide +kernel) rfl dX12_takeValley_97 ?_
                          refine lv_iconst (v := 4) G0.1 G0.2.1 dX12_takeValley_100 (by decide) ?_
                          refine lv_iload_n G0.1 G0.2.1 dX12_takeValley_101 rfl (lv_at hl 0 rfl) ?_
                          refine lv_imul G0.1 G0.2.1 dX12_takeValley_102 ?_
                          refine lv_topi (fun x_150 ex_150 => ?_)
                          first | have tx_150 := ti_muld ex_150 kc4 (by omega -splitDisjunctions) (by omega -splitDisjunctions) | skip
                          refine lv_iconst (v := 1) G0.1 G0.2.1 dX12_takeValley_103 (by decide) ?_
                          refine lv_iadd G0.1 G0.2.1 dX12_takeValley_104 ?_
                          refine lv_topi (fun x_151 ex_151 => ?_)
                          first | have tx_151 := ti_add ex_151 (by omega -splitDisjunctions) (by omega -splitDisjunctions) | skip
                          obtain ⟨g_152, ha_153, hi_154⟩ := wf_arr (n := 40) (lo := (-2147483648)) (hi := 2147483647) hWF (wt12_18 hG Tu) (by decide) (fun _ => rfl)
                          have rg_155 : vp_in x_151 40 := ti_in (by omega) (by omega)
                          refine py_iald G0 hw ha_153 rg_155 dX12_takeValley_105 ?_
                          refine lv_topi (fun x_156 ex_156 => ?_)
                          have bx_156 := wf_free x_156
                          have zx_156 := arz_ld ha_153 ex_156
                          have hr1 : 0 ≤ x_156.toInt ∧ x_156.toInt ≤ 7 := by have hr := (hR v_93.toInt (by omega) (by omega)).2; rw [show 4 * v_93.toInt + 1 = x_151.toInt by omega, zx_156] at hr; exact hr
                          refine lv_istore_n (lv' := [(2, .int x_156), (1, .int v_93), (0, .ref u)]) G0.1 G0.2.1 dX12_takeValley_106 rfl hl (by decide) rfl (fun ls hl => ?_)
                          refine lv_aload_n G0.1 G0.2.1 dX12_takeValley_107 rfl (lv_at hl 2 rfl) ?_
                          refine lv_iload_n G0.1 G0.2.1 dX12_takeValley_108 rfl (lv_at hl 1 rfl) ?_
                          refine lv_iconst (v := 2) G0.1 G0.2.1 dX12_takeValley_109 (by decide) ?_
                          refine lv_aload_n G0.1 G0.2.1 dX12_takeValley_110 rfl (lv_at hl 2 rfl) ?_
                          refine lv_iload_n G0.1 G0.2.1 dX12_takeValley_111 rfl (lv_at hl 0 rfl) ?_
                          refine lv_iconst (v := 0) G0.1 G0.2.1 dX12_takeValley_112 (by decide) ?_
                          refine py_calli hw (va_runV (As := [.int x_156, .int 0]) (rest := [.int 2, .int v_93, .ref u]) G0 (c_X12_emptyHut l E G L_j88 f_j88 H_j88.size u x_156 0 hG hWF Tu ⟨by omega, by omega⟩) (cwV 2 G0.2.2.2.2 g_X12_takeValley_X12_emptyHut_299 rfl rfl rfl (by decide +kernel) ⟨(Nat.le_of_ble_eq_true rfl), (Nat.le_of_ble_eq_true rfl)⟩) (py_preV hw (C := RX12) (T := TX12) (N := 54) rfl hr_128) rfl rfl hl.1 rfl (lv_room (Nat.le_of_ble_eq_true rfl)) dX12_takeValley_113 ⟨(Nat.le_of_ble_eq_true rfl), (Nat.le_of_ble_eq_true rfl)⟩) (fun r_161 L_157 f_158 H_159 locs hp_160 hw => ?_)
                          obtain ⟨en_162, en_163, rfl, rfl⟩ := hp_160
                          have en_162 : r_161.toInt = -1 → (0 : Int) = 0 → ¬ EH f_j88 G u x_156.toInt := en_162
                          have en_163 : r_161.toInt ≠ -1 → EH f_j88 G u x_156.toInt ∧ (0 : Int) ≤ r_161.toInt ∧ r_161.toInt < lr f_j88 G u x_156.toInt 0 ∧ r_161.toInt < 2147483647 := en_163
                          have br_161 := wf_free r_161
                          refine py_callv hw (va_runV (As := [.int v_93, .int 2, .int r_161]) (rest := []) G0 (c_X12_tell l E G L_j88 f_j88 H_159.size u v_93 2 r_161 hG hWF Tu ⟨by omega, by omega⟩ ⟨by omega, by omega⟩ (show ((2 : Int32).toInt = 0 → 0 ≤ r_161.toInt ∧ r_161.toInt ≤ 20) ∧ ((2 : Int32).toInt = 1 → -1 ≤ r_161.toInt ∧ r_161.toInt ≤ 7) by omega)) (cwV 3 G0.2.2.2.2 g_X12_takeValley_X12_tell_305 rfl rfl rfl (by decide +kernel) ⟨(Nat.le_of_ble_eq_true rfl), (Nat.le_of_ble_eq_true rfl)⟩) (py_preV hw (C := RX12) (T := TX12) (N := 54) rfl hr_128) rfl rfl hl.1 rfl (lv_room (Nat.le_of_ble_eq_true rfl)) dX12_takeValley_116 ⟨(Nat.le_of_ble_eq_true rfl), (Nat.le_of_ble_eq_true rfl)⟩) (fun L_164 f_165 H_166 locs hp_167 hw => ?_)
                          obtain ⟨en_169, hWF, kp_170, fk_171⟩ := hp_167
                          have en_169 : TL f_j88 f_165 G u v_93.toInt (2 : Int) r_161.toInt := en_169
                          have hR := hR.same (kp_f kp_170 (wt12_18 hG Tu) (by decide) (by decide) (fun _ => by decide)) rfl
                          have hFK := hFK.trans fk_171 (by decide)
                          have hKP := hKP.trans kp_170 (by decide) (by decide)
                          have hr_128 := kp_at kp_170 hWF Tu (by decide) (by decide) (by decide) hr_128
                          have tq_172 := mi_row hr_128 20 rfl
                          have tq_173 := mi_row hr_128 25 rfl
                          have ha_153 := kp_at kp_170 hWF (wt12_18 hG Tu) (by decide) (by decide) (by decide) ha_153
                          refine lv_aload_n G0.1 G0.2.1 dX12_takeValley_119 rfl (lv_at hl 2 rfl) ?_
                          refine lv_iload_n G0.1 G0.2.1 dX12_takeValley_120 rfl (lv_at hl 1 rfl) ?_
                          refine lv_iconst (v := 1) G0.1 G0.2.1 dX12_takeValley_121 (by decide) ?_
                          refine lv_iload_n G0.1 G0.2.1 dX12_takeValley_122 rfl (lv_at hl 0 rfl) ?_
                          refine py_callv hw (va_runV (As := [.int v_93, .int 1, .int x_156]) (rest := []) G0 (c_X12_tell l E G L_164 f_165 H_166.size u v_93 1 x_156 hG hWF Tu ⟨by omega, by omega⟩ ⟨by omega, by omega⟩ (show ((1 : Int32).toInt = 0 → 0 ≤ x_156.toInt ∧ x_156.toInt ≤ 20) ∧ ((1 : Int32).toInt = 1 → -1 ≤ x_156.toInt ∧ x_156.toInt ≤ 7) by omega)) (cwV 3 G0.2.2.2.2 g_X12_takeValley_X12_tell_305 rfl rfl rfl (by decide +kernel) ⟨(Nat.le_of_ble_eq_true rfl), (Nat.le_of_ble_eq_true rfl)⟩) (py_preV hw (C := RX12) (T := TX12) (N := 54) rfl hr_128) rfl rfl hl.1 rfl (lv_room (Nat.le_of_ble_eq_true rfl)) dX12_takeValley_123 ⟨(Nat.le_of_ble_eq_true rfl), (Nat.le_of_ble_eq_true rfl)⟩) (fun L_174 f_175 H_176 locs hp_177 hw => ?_)
                          obtain ⟨en_179, hWF, kp_180, fk_181⟩ := hp_177
                          have en_179 : TL f_165 f_175 G u v_93.toInt (1 : Int) x_156.toInt := en_179
                          have hR := hR.same (kp_f kp_180 (wt12_18 hG Tu) (by decide) (by decide) (fun _ => by decide)) rfl
                          have hFK := hFK.trans fk_181 (by decide)
                          have hKP := hKP.trans kp_180 (by decide) (by decide)
                          have hr_128 := kp_at kp_180 hWF Tu (by decide) (by decide) (by decide) hr_128
                          have tq_182 := mi_row hr_128 20 rfl
                          have tq_183 := mi_row hr_128 25 rfl
                          have ha_153 := kp_at kp_180 hWF (wt12_18 hG Tu) (by decide) (by decide) (by decide) ha_153
                          refine lv_aload_n G0.1 G0.2.1 dX12_takeValley_126 rfl (lv_at hl 2 rfl) ?_
                          refine lv_iload_n G0.1 G0.2.1 dX12_takeValley_127 rfl (lv_at hl 1 rfl) ?_
                          refine lv_iconst (v := 0) G0.1 G0.2.1 dX12_takeValley_128 (by decide) ?_
                          refine lv_aload_n G0.1 G0.2.1 dX12_takeValley_129 rfl (lv_at hl 2 rfl) ?_
                          refine py_get (C := RX12) (T := TX12) (N := 54) (k := 18) (v := .ref (G.2 u 18)) G0 hw in_X12_takeValley_X12 rfl hr_128 (by decide) (by decide +kernel) rfl dX12_takeValley_130 ?_
                          refine lv_iconst (v := 4) G0.1 G0.2.1 dX12_takeValley_133 (by decide) ?_
                          refine lv_iload_n G0.1 G0.2.1 dX12_takeValley_134 rfl (lv_at hl 1 rfl) ?_
                          refine lv_imul G0.1 G0.2.1 dX12_takeValley_135 ?_
                          refine lv_topi (fun x_184 ex_184 => ?_)
                          first | have tx_184 := ti_muld ex_184 kc4 (by omega -splitDisjunctions) (by omega -splitDisjunctions) | skip
                          have rg_185 : vp_in x_184 40 := ti_in (by omega) (by omega)
                          refine py_iald G0 hw ha_153 rg_185 dX12_takeValley_136 ?_
                          refine lv_topi (fun x_186 ex_186 => ?_)
                          have bx_186 := wf_free x_186
                          have zx_186 := arz_ld ha_153 ex_186
                          have hr2 : 0 ≤ x_186.toInt ∧ x_186.toInt ≤ 20 := by have hr := (hR v_93.toInt (by omega) (by omega)).1; rw [show 4 * v_93.toInt = x_184.toInt by omega, zx_186] at hr; exact hr
                          refine py_callv hw (va_runV (As := [.int v_93, .int 0, .int x_186]) (rest := []) G0 (c_X12_tell l E G L_174 f_175 H_176.size u v_93 0 x_186 hG hWF Tu ⟨by omega, by omega⟩ ⟨by omega, by omega⟩ (show ((0 : Int32).toInt = 0 → 0 ≤ x_186.toInt ∧ x_186.toInt ≤ 20) ∧ ((0 : Int32).toInt = 1 → -1 ≤ x_186.toInt ∧ x_186.toInt ≤ 7) by omega)) (cwV 3 G0.2.2.2.2 g_X12_takeValley_X12_tell_305 rfl rfl rfl (by decide +kernel) ⟨(Nat.le_of_ble_eq_true rfl), (Nat.le_of_ble_eq_true rfl)⟩) (py_preV hw (C := RX12) (T := TX12) (N := 54) rfl hr_128) rfl rfl hl.1 rfl (lv_room (Nat.le_of_ble_eq_true rfl)) dX12_takeValley_137 ⟨(Nat.le_of_ble_eq_true rfl), (Nat.le_of_ble_eq_true rfl)⟩) (fun L_187 f_188 H_189 locs hp_190 hw => ?_)
                          obtain ⟨en_192, hWF, kp_193, fk_194⟩ := hp_190
                          have en_192 : TL f_175 f_188 G u v_93.toInt (0 : Int) x_186.toInt := en_192
                          have hR := hR.same (kp_f kp_193 (wt12_18 hG Tu) (by decide) (by decide) (fun _ => by decide)) rfl
                          have hFK := hFK.trans fk_194 (by decide)
                          have hKP := hKP.trans kp_193 (by decide) (by decide)
                          have hr_128 := kp_at kp_193 hWF Tu (by decide) (by decide) (by decide) hr_128
                          have tq_195 := mi_row hr_128 20 rfl
                          have tq_196 := mi_row hr_128 25 rfl
                          have ha_153 := kp_at kp_193 hWF (wt12_18 hG Tu) (by decide) (by decide) (by decide) ha_153
                          refine lv_aload_n G0.1 G0.2.1 dX12_takeValley_140 rfl (lv_at hl 2 rfl) ?_
                          refine py_get (C := RX12) (T := TX12) (N := 54) (k := 22) (v := .ref (G.2 u 22)) G0 hw in_X12_takeValley_X12 rfl hr_128 (by decide) (by decide +kernel) rfl dX12_takeValley_141 ?_
                          refine lv_iload_n G0.1 G0.2.1 dX12_takeValley_144 rfl (lv_at hl 1 rfl) ?_
                          refine lv_aload_n G0.1 G0.2.1 dX12_takeValley_145 rfl (lv_at hl 2 rfl) ?_
                          refine py_get (C := RX12) (T := TX12) (N := 54) (k := 18) (v := .ref (G.2 u 18)) G0 hw in_X12_takeValley_X12 rfl hr_128 (by decide) (by decide +kernel) rfl dX12_takeValley_146 ?_
                          refine lv_iconst (v := 4) G0.1 G0.2.1 dX12_takeValley_149 (by decide) ?_
                          refine lv_iload_n G0.1 G0.2.1 dX12_takeValley_150 rfl (lv_at hl 1 rfl) ?_
                          refine lv_imul G0.1 G0.2.1 dX12_takeValley_151 ?_
                          refine lv_topi (fun x_197 ex_197 => ?_)
                          first | have tx_197 := ti_muld ex_197 kc4 (by omega -splitDisjunctions) (by omega -splitDisjunctions) | skip
                          refine lv_iconst (v := 2) G0.1 G0.2.1 dX12_takeValley_152 (by decide) ?_
                          refine lv_iadd G0.1 G0.2.1 dX12_takeValley_153 ?_
                          refine lv_topi (fun x_198 ex_198 => ?_)
                          first | have tx_198 := ti_add ex_198 (by omega -splitDisjunctions) (by omega -splitDisjunctions) | skip
                          have rg_199 : vp_in x_198 40 := ti_in (by omega) (by omega)
                          refine py_iald G0 hw ha_153 rg_199 dX12_takeValley_154 ?_
                          refine lv_topi (fun x_200 ex_200 => ?_)
                          have bx_200 := wf_free x_200
                          have zx_200 := arz_ld ha_153 ex_200
                          obtain ⟨g_201, ha_202, hi_203⟩ := wf_arr (n := 10) (lo := (-2147483648)) (hi := 2147483647) hWF (wt12_22 hG Tu) (by decide) (fun _ => rfl)
                          have rg_204 : vp_in v_93 10 := ti_in (by omega) (by omega)
                          refine py_iast G0 hw ha_202 rg_204 dX12_takeValley_155 (fun f_205 H_206 locs h_207 x_208 hw => ?_)
                          have hR := hR.same ((x_208 _ (hWF _ (by rw [(wt12_18 hG Tu)]; decide)).1 (wf_ne (wt12_18 hG Tu) (wt12_22 hG Tu) (by decide))).2) rfl
                          have hFK := hFK.same ((x_208 _ (hWF _ (by rw [Tu]; decide)).1 (wf_ne Tu (wt12_22 hG Tu) (by decide))).2)
                          have hKP := hKP.upd hWF x_208 (wt12_22 hG Tu) (Or.inl (by decide))
                          have hi_209 := wf_inu (k := (v_93 : Int32).toNatClampNeg) (x := x_200) hi_203 (wf_free x_200).1 (wf_free x_200).2
                          have hWF := wf_upd hWF h_207 x_208 (by rw [(wt12_22 hG Tu)]; exact ⟨_, rfl, hi_209⟩)
                          have hr_128 := hr_128.ext x_208 (py_ne_arr hr_128 ha_202)
                          have tq_210 := mi_row hr_128 20 rfl
                          have tq_211 := mi_row hr_128 25 rfl
                          have ha_153 := ha_153.ext x_208 (wf_ne (wt12_18 hG Tu) (wt12_22 hG Tu) (by decide))
                          refine lv_aload_n G0.1 G0.2.1 dX12_takeValley_156 rfl (lv_at hl 2 rfl) ?_
                          refine py_get (C := RX12) (T := TX12) (N := 54) (k := 23) (v := .ref (G.2 u 23)) G0 hw in_X12_takeValley_X12 rfl hr_128 (by decide) (by decide +kernel) rfl dX12_takeValley_157 ?_
                          refine lv_iload_n G0.1 G0.2.1 dX12_takeValley_160 rfl (lv_at hl 1 rfl) ?_
                          refine lv_aload_n G0.1 G0.2.1 dX12_takeValley_161 rfl (lv_at hl 2 rfl) ?_
                          refine py_get (C := RX12) (T := TX12) (N := 54) (k := 18) (v := .ref (G.2 u 18)) G0 hw in_X12_takeValley_X12 rfl hr_128 (by decide) (by decide +kernel) rfl dX12_takeValley_162 ?_
                          refine lv_iconst (v := 4) G0.1 G0.2.1 dX12_takeValley_165 (by decide) ?_
                          refine lv_iload_n G0.1 G0.2.1 dX12_takeValley_166 rfl (lv_at hl 1 rfl) ?_
                          refine lv_imul G0.1 G0.2.1 dX12_takeValley_167 ?_
                          refine lv_topi (fun x_212 ex_212 => ?_)
                          first | have tx_212 := ti_muld ex_212 kc4 (by omega -splitDisjunctions) (by omega -splitDisjunctions) | skip
                          refine lv_iconst (v := 3) G0.1 G0.2.1 dX12_takeValley_168 (by decide) ?_
                          refine lv_iadd G0.1 G0.2.1 dX12_takeValley_169 ?_
                          refine lv_topi (fun x_213 ex_213 => ?_)
                          first | have tx_213 := ti_add ex_213 (by omega -splitDisjunctions) (by omega -splitDisjunctions) | skip
                          have rg_214 : vp_in x_213 40 := ti_in (by omega) (by omega)
                          refine py_iald G0 hw ha_153 rg_214 dX12_takeValley_170 ?_
                          refine lv_topi (fun x_215 ex_215 => ?_)
                          have bx_215 := wf_free x_215
                          have zx_215 := arz_ld ha_153 ex_215
                          obtain ⟨g_216, ha_217, hi_218⟩ := wf_arr (n := 10) (lo := (-2147483648)) (hi := 2147483647) hWF (wt12_23 hG Tu) (by decide) (fun _ => rfl)
                          have rg_219 : vp_in v_93 10 := ti_in (by omega) (by omega)
                          refine py_iast G0 hw ha_217 rg_219 dX12_takeValley_171 (fun f_220 H_221 locs h_222 x_223 hw => ?_)
                          have hR := hR.same ((x_223 _ (hWF _ (by rw [(wt12_18 hG Tu)]; decide)).1 (wf_ne (wt12_18 hG Tu) (wt12_23 hG Tu) (by decide))).2) rfl
                          have hFK := hFK.same ((x_223 _ (hWF _ (by rw [Tu]; decide)).1 (wf_ne Tu (wt12_23 hG Tu) (by decide))).2)
                          have hKP := hKP.upd hWF x_223 (wt12_23 hG Tu) (Or.inl (by decide))
                          have hi_224 := wf_inu (k := (v_93 : Int32).toNatClampNeg) (x := x_215) hi_218 (wf_free x_215).1 (wf_free x_215).2
                          have hWF := wf_upd hWF h_222 x_223 (by rw [(wt12_23 hG Tu)]; exact ⟨_, rfl, hi_224⟩)
                          have hr_128 := hr_128.ext x_223 (py_ne_arr hr_128 ha_217)
                          have tq_225 := mi_row hr_128 20 rfl
                          have tq_226 := mi_row hr_128 25 rfl
                          have h_207 := h_207.ext x_223 (wf_ne (wt12_22 hG Tu) (wt12_23 hG Tu) (by decide))
                          have ha_153 := ha_153.ext x_223 (wf_ne (wt12_18 hG Tu) (wt12_23 hG Tu) (by decide))
                          obtain ⟨x_227, ex_227⟩ : ∃ y : Int32, y = v_93 + 1 := ⟨_, rfl⟩
                          first | have tx_227 := ti_add ex_227 (by omega -splitDisjunctions) (by omega -splitDisjunctions) | skip
                          refine lv_iinc (v := x_227) (lv' := [(1, .int x_227), (2, .int x_156), (0, .ref u)]) G0.1 G0.2.1 dX12_takeValley_172 hl (k := 1) rfl (show _ + (1 : Int32) = _ from ex_227.symm) (by decide) rfl (fun ls hl => ?_)
                          refine lv_goto (tgt := 88) G0.1 G0.2.1 dX12_takeValley_175 (by decide) ?_
                          exact ih_88 ((2147483647 - x_227.toInt).toNat) (by omega) x_227 L_187 f_220 _ _ ls rfl ⟨by omega, by omega⟩ hWF hKP hR hFK (by first | omega | (intros; omega)) hw (lv_sub hl [0, 2] rfl)
                    exact lo_88 _ 0 L_j65 f_j65 _ _ ls rfl ⟨by omega, by omega⟩ hWF hKP hR hFK (by first | omega | (intros; omega)) hw (lv_sub hl [0, 1] rfl)
                  · skip
                    have tc_92 := ti_nle c_92
                    refine lv_aload_n G0.1 G0.2.1 dX12_takeValley_73 rfl (lv_at hl 1 rfl) ?_
                    refine lv_iload_n G0.1 G0.2.1 dX12_takeValley_74 rfl (lv_at hl 0 rfl) ?_
                    refine lv_iconst (v := 1) G0.1 G0.2.1 dX12_takeValley_75 (by decide) ?_
                    refine lv_iconst (v := (-1)) G0.1 G0.2.1 dX12_takeValley_76 (by decide) ?_
                    refine py_callv hw (va_runV (As := [.int v_54, .int 1, .int (-1)]) (rest := []) G0 (c_X12_tell l E G L_j65 f_j65 H_j65.size u v_54 1 (-1) hG hWF Tu ⟨by omega, by omega⟩ ⟨by omega, by omega⟩ (show ((1 : Int32).toInt = 0 → 0 ≤ ((-1) : Int32).toInt ∧ ((-1) : Int32).toInt ≤ 20) ∧ ((1 : Int32).toInt = 1 → -1 ≤ ((-1) : Int32).toInt ∧ ((-1) : Int32).toInt ≤ 7) by omega)) (cwV 3 G0.2.2.2.2 g_X12_takeValley_X12_tell_305 rfl rfl rfl (by decide +kernel) ⟨(Nat.le_of_ble_eq_true rfl), (Nat.le_of_ble_eq_true rfl)⟩) (py_preV hw (C := RX12) (T := TX12) (N := 54) rfl hr_89) rfl rfl hl.1 rfl (lv_room (Nat.le_of_ble_eq_true rfl)) dX12_takeValley_77 ⟨(Nat.le_of_ble_eq_true rfl), (Nat.le_of_ble_eq_true rfl)⟩) (fun L_228 f_229 H_230 locs hp_231 hw => ?_)
                    obtain ⟨en_233, hWF, kp_234, fk_235⟩ := hp_231
                    have en_233 : TL f_j65 f_229 G u v_54.toInt (1 : Int) ((-1) : Int) := en_233
                    have hR := hR.same (kp_f kp_234 (wt12_18 hG Tu) (by decide) (by decide) (fun _ => by decide)) rfl
                    have hFK := hFK.trans fk_235 (by decide)
                    have hKP := hKP.trans kp_234 (by decide) (by decide)
                    have hr_89 := kp_at kp_234 hWF Tu (by decide) (by decide) (by decide) hr_89
                    have tq_236 := mi_row hr_89 20 rfl
                    have tq_237 := mi_row hr_89 25 rfl
                    obtain ⟨x_238, ex_238⟩ : ∃ y : Int32, y = v_54 + 1 := ⟨_, rfl⟩
                    first | have tx_238 := ti_add ex_238 (by omega -splitDisjunctions) (by omega -splitDisjunctions) | skip
                    refine lv_iinc (v := x_238) (lv' := [(1, .int x_238), (0, .ref u)]) G0.1 G0.2.1 dX12_takeValley_80 hl (k := 0) rfl (show _ + (1 : Int32) = _ from ex_238.symm) (by decide) rfl (fun ls hl => ?_)
                    refine lv_goto (tgt := 65) G0.1 G0.2.1 dX12_takeValley_83 (by decide) ?_
                    exact ih_65 ((2147483647 - x_238.toInt).toNat) (by omega) x_238 L_228 f_229 _ _ ls rfl ⟨by omega, by omega⟩ hWF hKP hR hFK (by first | omega | (intros; omega)) hw (lv_sub hl [0, 1] rfl)
              exact lo_65 _ 0 L_j44 f_j44 _ _ ls rfl ⟨by omega, by omega⟩ hWF hKP hR hFK (by first | omega | (intros; omega)) hw (lv_sub hl [0, 1] rfl)
            · skip
              have tc_53 := ti_nle c_53
              refine lv_aload_n G0.1 G0.2.1 dX12_takeValley_50 rfl (lv_at hl 1 rfl) ?_
              obtain ⟨v_239, v_240, v_241, v_242, v_243, v_244, v_245, v_246, v_247, v_248, v_249, v_250, y_251, v_252, v_253, v_254, v_255, v_256, y_257, v_258, y_259, v_260, hr_273, b_261, b_262, b_263, b_264, b_265, b_266, b_267, b_268, b_269, b_270, b_271, b_272⟩ := wg_12 hWF Tu
              have tq_274 := mi_row hr_273 20 rfl
              have tq_275 := mi_row hr_273 25 rfl
              refine py_get (C := RX12) (T := TX12) (N := 54) (k := 26) (v := .ref (G.2 u 26)) G0 hw in_X12_takeValley_X12 rfl hr_273 (by decide) (by decide +kernel) rfl dX12_takeValley_51 ?_
              refine lv_iload_n G0.1 G0.2.1 dX12_takeValley_54 rfl (lv_at hl 0 rfl) ?_
              refine lv_iconst (v := 0) G0.1 G0.2.1 dX12_takeValley_55 (by decide) ?_
              obtain ⟨g_276, ha_277, hi_278⟩ := wf_n55 hWF (wt12_26 hG Tu)
              have rg_279 : vp_in v_52 90 := ti_in (by omega) (by omega)
              refine py_iast G0 hw ha_277 rg_279 dX12_takeValley_56 (fun f_280 H_281 locs h_282 x_283 hw => ?_)
              have hR := hR.same ((x_283 _ (hWF _ (by rw [(wt12_18 hG Tu)]; decide)).1 (wf_ne (wt12_18 hG Tu) (wt12_26 hG Tu) (by decide))).2) rfl
              have hFK := hFK.same ((x_283 _ (hWF _ (by rw [Tu]; decide)).1 (wf_ne Tu (wt12_26 hG Tu) (by decide))).2)
              have hKP := hKP.upd hWF x_283 (wt12_26 hG Tu) (Or.inl (by decide))
              have hi_284 : wf_nw (upd g_276 (v_52 : Int32).toNatClampNeg (0 : Int32)) := (nw_z hi_278)
              have hWF := wf_upd hWF h_282 x_283 (by rw [(wt12_26 hG Tu)]; exact ⟨_, rfl, hi_284⟩)
              have hr_273 := hr_273.ext x_283 (py_ne_arr hr_273 ha_277)
              have tq_285 := mi_row hr_273 20 rfl
              have tq_286 := mi_row hr_273 25 rfl
              obtain ⟨x_287, ex_287⟩ : ∃ y : Int32, y = v_52 + 1 := ⟨_, rfl⟩
              first | have tx_287 := ti_add ex_287 (by omega -splitDisjunctions) (by omega -splitDisjunctions) | skip
              refine lv_iinc (v := x_287) (lv' := [(1, .int x_287), (0, .ref u)]) G0.1 G0.2.1 dX12_takeValley_57 hl (k := 0) rfl (show _ + (1 : Int32) = _ from ex_287.symm) (by decide) rfl (fun ls hl => ?_)
              refine lv_goto (tgt := 44) G0.1 G0.2.1 dX12_takeValley_60 (by decide) ?_
              exact ih_44 ((2147483647 - x_287.toInt).toNat) (by omega) x_287 L_j44 f_280 _ _ ls rfl ⟨by omega, by omega⟩ hWF hKP hR hFK (by first | omega | (intros; omega)) hw (lv_sub hl [0, 1] rfl)
        exact lo_44 _ 0 L_j18 f_j18 _ _ ls rfl ⟨by omega, by omega⟩ hWF hKP hR hFK (by first | omega | (intros; omega)) hw (lv_sub hl [0, 1] rfl)
      · skip
        have tc_51 := ti_nle c_51
        refine lv_aload_n G0.1 G0.2.1 dX12_takeValley_24 rfl (lv_at hl 1 rfl) ?_
        obtain ⟨v_288, v_289, v_290, v_291, v_292, v_293, v_294, v_295, v_296, v_297, v_298, v_299, y_300, v_301, v_302, v_303, v_304, v_305, y_306, v_307, y_308, v_309, hr_322, b_310, b_311, b_312, b_313, b_314, b_315, b_316, b_317, b_318, b_319, b_320, b_321⟩ := wg_12 hWF Tu
        have tq_323 := mi_row hr_322 20 rfl
        have tq_324 := mi_row hr_322 25 rfl
        refine py_get (C := RX12) (T := TX12) (N := 54) (k := 21) (v := .ref (G.2 u 21)) G0 hw in_X12_takeValley_X12 rfl hr_322 (by decide) (by decide +kernel) rfl dX12_takeValley_25 ?_
        refine lv_iload_n G0.1 G0.2.1 dX12_takeValley_28 rfl (lv_at hl 0 rfl) ?_
        refine lv_aload_n G0.1 G0.2.1 dX12_takeValley_29 rfl (lv_at hl 1 rfl) ?_
        refine py_get (C := RX12) (T := TX12) (N := 54) (k := 17) (v := .ref (G.2 u 17)) G0 hw in_X12_takeValley_X12 rfl hr_322 (by decide) (by decide +kernel) rfl dX12_takeValley_30 ?_
        refine lv_iload_n G0.1 G0.2.1 dX12_takeValley_33 rfl (lv_at hl 0 rfl) ?_
        obtain ⟨g_325, ha_326, hi_327⟩ := wf_arr (n := 32) (lo := (-2147483648)) (hi := 2147483647) hWF (wt12_17 hG Tu) (by decide) (fun _ => rfl)
        have rg_328 : vp_in v_50 32 := ti_in (by omega) (by omega)
        refine py_iald G0 hw ha_326 rg_328 dX12_takeValley_34 ?_
        refine lv_topi (fun x_329 ex_329 => ?_)
        have bx_329 := wf_free x_329
        have zx_329 := arz_ld ha_326 ex_329
        obtain ⟨g_330, ha_331, hi_332⟩ := wf_arr (n := 32) (lo := (-2147483648)) (hi := 2147483647) hWF (wt12_21 hG Tu) (by decide) (fun _ => rfl)
        have rg_333 : vp_in v_50 32 := ti_in (by omega) (by omega)
        refine py_iast G0 hw ha_331 rg_333 dX12_takeValley_35 (fun f_334 H_335 locs h_336 x_337 hw => ?_)
        have hR := hR.same ((x_337 _ (hWF _ (by rw [(wt12_18 hG Tu)]; decide)).1 (wf_ne (wt12_18 hG Tu) (wt12_21 hG Tu) (by decide))).2) rfl
        have hFK := hFK.same ((x_337 _ (hWF _ (by rw [Tu]; decide)).1 (wf_ne Tu (wt12_21 hG Tu) (by decide))).2)
        have hKP := hKP.upd hWF x_337 (wt12_21 hG Tu) (Or.inl (by decide))
        have hi_338 := wf_inu (k := (v_50 : Int32).toNatClampNeg) (x := x_329) hi_332 (wf_free x_329).1 (wf_free x_329).2
        have hWF := wf_upd hWF h_336 x_337 (by rw [(wt12_21 hG Tu)]; exact ⟨_, rfl, hi_338⟩)
        have hr_322 := hr_322.ext x_337 (py_ne_arr hr_322 ha_331)
        have tq_339 := mi_row hr_322 20 rfl
        have tq_340 := mi_row hr_322 25 rfl
        have ha_326 := ha_326.ext x_337 (wf_ne (wt12_17 hG Tu) (wt12_21 hG Tu) (by decide))
        obtain ⟨x_341, ex_341⟩ : ∃ y : Int32, y = v_50 + 1 := ⟨_, rfl⟩
        first | have tx_341 := ti_add ex_341 (by omega -splitDisjunctions) (by omega -splitDisjunctions) | skip
        refine lv_iinc (v := x_341) (lv' := [(1, .int x_341), (0, .ref u)]) G0.1 G0.2.1 dX12_takeValley_36 hl (k := 0) rfl (show _ + (1 : Int32) = _ from ex_341.symm) (by decide) rfl (fun ls hl => ?_)
        refine lv_goto (tgt := 18) G0.1 G0.2.1 dX12_takeValley_39 (by decide) ?_
        exact ih_18 ((2147483647 - x_341.toInt).toNat) (by omega) x_341 L_j18 f_334 _ _ ls rfl ⟨by omega, by omega⟩ hWF hKP hR hFK (by first | omega | (intros; omega)) hw (lv_sub hl [0, 1] rfl)
  exact lo_18 _ 0 L f_44 _ _ ls rfl ⟨by omega, by omega⟩ hWF hKP hR hFK (by first | omega | (intros; omega)) hw (lv_sub hl [0, 1] rfl)
