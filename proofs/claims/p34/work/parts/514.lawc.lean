theorem dX3_held_0 : decode cX3_held 0 = .ok (.lload_n 0, 1) := by decide +kernel
theorem dX3_held_1 : decode cX3_held 1 = .ok (.iload_n 2, 1) := by decide +kernel
theorem dX3_held_2 : decode cX3_held 2 = .ok (.i2l, 1) := by decide +kernel
theorem dX3_held_3 : decode cX3_held 3 = .ok (.lcmp, 1) := by decide +kernel
theorem dX3_held_4 : decode cX3_held 4 = .ok (.ifCond .le 5, 3) := by decide +kernel
theorem dX3_held_7 : decode cX3_held 7 = .ok (.iload_n 2, 1) := by decide +kernel
theorem dX3_held_8 : decode cX3_held 8 = .ok (.ireturn, 1) := by decide +kernel
theorem dX3_held_9 : decode cX3_held 9 = .ok (.lload_n 0, 1) := by decide +kernel
theorem dX3_held_10 : decode cX3_held 10 = .ok (.iload_n 2, 1) := by decide +kernel
theorem dX3_held_11 : decode cX3_held 11 = .ok (.ineg, 1) := by decide +kernel
theorem dX3_held_12 : decode cX3_held 12 = .ok (.i2l, 1) := by decide +kernel
theorem dX3_held_13 : decode cX3_held 13 = .ok (.lcmp, 1) := by decide +kernel
theorem dX3_held_14 : decode cX3_held 14 = .ok (.ifCond .ge 8, 3) := by decide +kernel
theorem dX3_held_17 : decode cX3_held 17 = .ok (.iload_n 2, 1) := by decide +kernel
theorem dX3_held_18 : decode cX3_held 18 = .ok (.ineg, 1) := by decide +kernel
theorem dX3_held_19 : decode cX3_held 19 = .ok (.goto 5, 3) := by decide +kernel
theorem dX3_held_22 : decode cX3_held 22 = .ok (.lload_n 0, 1) := by decide +kernel
theorem dX3_held_23 : decode cX3_held 23 = .ok (.l2i, 1) := by decide +kernel
theorem dX3_held_24 : decode cX3_held 24 = .ok (.ireturn, 1) := by decide +kernel
theorem dX3_joined_0 : decode cX3_joined 0 = .ok (.iload_n 0, 1) := by decide +kernel
theorem dX3_joined_1 : decode cX3_joined 1 = .ok (.tableswitch 195 38 62 #[177, 195, 195, 195, 123, 115, 195, 119, 195, 127, 195, 195, 195, 195, 195, 195, 195, 195, 195, 195, 195, 195, 153, 141, 165], 115) := by decide +kernel
theorem dX3_joined_116 : decode cX3_joined 116 = .ok (.lload_n 1, 1) := by decide +kernel
theorem dX3_joined_117 : decode cX3_joined 117 = .ok (.lload_n 3, 1) := by decide +kernel
theorem dX3_joined_118 : decode cX3_joined 118 = .ok (.ladd, 1) := by decide +kernel
theorem dX3_joined_119 : decode cX3_joined 119 = .ok (.lreturn, 1) := by decide +kernel
theorem dX3_joined_120 : decode cX3_joined 120 = .ok (.lload_n 1, 1) := by decide +kernel
theorem dX3_joined_121 : decode cX3_joined 121 = .ok (.lload_n 3, 1) := by decide +kernel
theorem dX3_joined_122 : decode cX3_joined 122 = .ok (.lsub, 1) := by decide +kernel
theorem dX3_joined_123 : decode cX3_joined 123 = .ok (.lreturn, 1) := by decide +kernel
theorem dX3_joined_124 : decode cX3_joined 124 = .ok (.lload_n 1, 1) := by decide +kernel
theorem dX3_joined_125 : decode cX3_joined 125 = .ok (.lload_n 3, 1) := by decide +kernel
theorem dX3_joined_126 : decode cX3_joined 126 = .ok (.lmul, 1) := by decide +kernel
theorem dX3_joined_127 : decode cX3_joined 127 = .ok (.lreturn, 1) := by decide +kernel
theorem dX3_joined_128 : decode cX3_joined 128 = .ok (.lload_n 3, 1) := by decide +kernel
theorem dX3_joined_129 : decode cX3_joined 129 = .ok (.lconst 0, 1) := by decide +kernel
theorem dX3_joined_130 : decode cX3_joined 130 = .ok (.lcmp, 1) := by decide +kernel
theorem dX3_joined_131 : decode cX3_joined 131 = .ok (.ifCond .ne 7, 3) := by decide +kernel
theorem dX3_joined_134 : decode cX3_joined 134 = .ok (.lconst 0, 1) := by decide +kernel
theorem dX3_joined_135 : decode cX3_joined 135 = .ok (.goto 6, 3) := by decide +kernel
theorem dX3_joined_138 : decode cX3_joined 138 = .ok (.lload_n 1, 1) := by decide +kernel
theorem dX3_joined_139 : decode cX3_joined 139 = .ok (.lload_n 3, 1) := by decide +kernel
theorem dX3_joined_140 : decode cX3_joined 140 = .ok (.ldiv, 1) := by decide +kernel
theorem dX3_joined_141 : decode cX3_joined 141 = .ok (.lreturn, 1) := by decide +kernel
theorem dX3_joined_142 : decode cX3_joined 142 = .ok (.lload_n 1, 1) := by decide +kernel
theorem dX3_joined_143 : decode cX3_joined 143 = .ok (.lload_n 3, 1) := by decide +kernel
theorem dX3_joined_144 : decode cX3_joined 144 = .ok (.lcmp, 1) := by decide +kernel
theorem dX3_joined_145 : decode cX3_joined 145 = .ok (.ifCond .ne 7, 3) := by decide +kernel
theorem dX3_joined_148 : decode cX3_joined 148 = .ok (.lconst 1, 1) := by decide +kernel
theorem dX3_joined_149 : decode cX3_joined 149 = .ok (.goto 4, 3) := by decide +kernel
theorem dX3_joined_152 : decode cX3_joined 152 = .ok (.lconst 0, 1) := by decide +kernel
theorem dX3_joined_153 : decode cX3_joined 153 = .ok (.lreturn, 1) := by decide +kernel
theorem dX3_joined_154 : decode cX3_joined 154 = .ok (.lload_n 1, 1) := by decide +kernel
theorem dX3_joined_155 : decode cX3_joined 155 = .ok (.lload_n 3, 1) := by decide +kernel
theorem dX3_joined_156 : decode cX3_joined 156 = .ok (.lcmp, 1) := by decide +kernel
theorem dX3_joined_157 : decode cX3_joined 157 = .ok (.ifCond .ge 7, 3) := by decide +kernel
theorem dX3_joined_160 : decode cX3_joined 160 = .ok (.lconst 1, 1) := by decide +kernel
theorem dX3_joined_161 : decode cX3_joined 161 = .ok (.goto 4, 3) := by decide +kernel
theorem dX3_joined_164 : decode cX3_joined 164 = .ok (.lconst 0, 1) := by decide +kernel
theorem dX3_joined_165 : decode cX3_joined 165 = .ok (.lreturn, 1) := by decide +kernel
theorem dX3_joined_166 : decode cX3_joined 166 = .ok (.lload_n 1, 1) := by decide +kernel
theorem dX3_joined_167 : decode cX3_joined 167 = .ok (.lload_n 3, 1) := by decide +kernel
theorem dX3_joined_168 : decode cX3_joined 168 = .ok (.lcmp, 1) := by decide +kernel
theorem dX3_joined_169 : decode cX3_joined 169 = .ok (.ifCond .le 7, 3) := by decide +kernel
theorem dX3_joined_172 : decode cX3_joined 172 = .ok (.lconst 1, 1) := by decide +kernel
theorem dX3_joined_173 : decode cX3_joined 173 = .ok (.goto 4, 3) := by decide +kernel
theorem dX3_joined_176 : decode cX3_joined 176 = .ok (.lconst 0, 1) := by decide +kernel
theorem dX3_joined_177 : decode cX3_joined 177 = .ok (.lreturn, 1) := by decide +kernel
theorem dX3_joined_178 : decode cX3_joined 178 = .ok (.lload_n 1, 1) := by decide +kernel
theorem dX3_joined_179 : decode cX3_joined 179 = .ok (.lconst 0, 1) := by decide +kernel
theorem dX3_joined_180 : decode cX3_joined 180 = .ok (.lcmp, 1) := by decide +kernel
theorem dX3_joined_181 : decode cX3_joined 181 = .ok (.ifCond .eq 13, 3) := by decide +kernel
theorem dX3_joined_184 : decode cX3_joined 184 = .ok (.lload_n 3, 1) := by decide +kernel
theorem dX3_joined_185 : decode cX3_joined 185 = .ok (.lconst 0, 1) := by decide +kernel
theorem dX3_joined_186 : decode cX3_joined 186 = .ok (.lcmp, 1) := by decide +kernel
theorem dX3_joined_187 : decode cX3_joined 187 = .ok (.ifCond .eq 7, 3) := by decide +kernel
theorem dX3_joined_190 : decode cX3_joined 190 = .ok (.lconst 1, 1) := by decide +kernel
theorem dX3_joined_191 : decode cX3_joined 191 = .ok (.goto 4, 3) := by decide +kernel
theorem dX3_joined_194 : decode cX3_joined 194 = .ok (.lconst 0, 1) := by decide +kernel
theorem dX3_joined_195 : decode cX3_joined 195 = .ok (.lreturn, 1) := by decide +kernel
theorem dX3_joined_196 : decode cX3_joined 196 = .ok (.lload_n 1, 1) := by decide +kernel
theorem dX3_joined_197 : decode cX3_joined 197 = .ok (.lconst 0, 1) := by decide +kernel
theorem dX3_joined_198 : decode cX3_joined 198 = .ok (.lcmp, 1) := by decide +kernel
theorem dX3_joined_199 : decode cX3_joined 199 = .ok (.ifCond .ne 9, 3) := by decide +kernel
theorem dX3_joined_202 : decode cX3_joined 202 = .ok (.lload_n 3, 1) := by decide +kernel
theorem dX3_joined_203 : decode cX3_joined 203 = .ok (.lconst 0, 1) := by decide +kernel
theorem dX3_joined_204 : decode cX3_joined 204 = .ok (.lcmp, 1) := by decide +kernel
theorem dX3_joined_205 : decode cX3_joined 205 = .ok (.ifCond .eq 7, 3) := by decide +kernel
theorem dX3_joined_208 : decode cX3_joined 208 = .ok (.lconst 1, 1) := by decide +kernel
theorem dX3_joined_209 : decode cX3_joined 209 = .ok (.goto 4, 3) := by decide +kernel
theorem dX3_joined_212 : decode cX3_joined 212 = .ok (.lconst 0, 1) := by decide +kernel
theorem dX3_joined_213 : decode cX3_joined 213 = .ok (.lreturn, 1) := by decide +kernel
theorem dX3_takenBy_0 : decode cX3_takenBy 0 = .ok (.iload_n 0, 1) := by decide +kernel
theorem dX3_takenBy_1 : decode cX3_takenBy 1 = .ok (.lookupswitch 55 #[(33, 53), (48, 51), (59, 53), (63, 53), (121, 51)], 51) := by decide +kernel
theorem dX3_takenBy_52 : decode cX3_takenBy 52 = .ok (.iconst 0, 1) := by decide +kernel
theorem dX3_takenBy_53 : decode cX3_takenBy 53 = .ok (.ireturn, 1) := by decide +kernel
theorem dX3_takenBy_54 : decode cX3_takenBy 54 = .ok (.iconst 1, 1) := by decide +kernel
theorem dX3_takenBy_55 : decode cX3_takenBy 55 = .ok (.ireturn, 1) := by decide +kernel
theorem dX3_takenBy_56 : decode cX3_takenBy 56 = .ok (.iconst 2, 1) := by decide +kernel
theorem dX3_takenBy_57 : decode cX3_takenBy 57 = .ok (.ireturn, 1) := by decide +kernel
theorem dX3_worth_0 : decode cX3_worth 0 = .ok (.iconst 0, 1) := by decide +kernel
theorem dX3_worth_1 : decode cX3_worth 1 = .ok (.istore_n 2, 1) := by decide +kernel
theorem dX3_worth_2 : decode cX3_worth 2 = .ok (.iconst 0, 1) := by decide +kernel
theorem dX3_worth_3 : decode cX3_worth 3 = .ok (.istore_n 3, 1) := by decide +kernel
theorem dX3_worth_4 : decode cX3_worth 4 = .ok (.iload_n 3, 1) := by decide +kernel
theorem dX3_worth_5 : decode cX3_worth 5 = .ok (.aload_n 0, 1) := by decide +kernel
theorem dX3_worth_6 : decode cX3_worth 6 = .ok (.getfield 18, 3) := by decide +kernel
theorem dX3_worth_9 : decode cX3_worth 9 = .ok (.if_icmp .ge 220, 3) := by decide +kernel
theorem dX3_worth_12 : decode cX3_worth 12 = .ok (.aload_n 0, 1) := by decide +kernel
theorem dX3_worth_13 : decode cX3_worth 13 = .ok (.getfield 9, 3) := by decide +kernel
theorem dX3_worth_16 : decode cX3_worth 16 = .ok (.iload_n 3, 1) := by decide +kernel
theorem dX3_worth_17 : decode cX3_worth 17 = .ok (.iaload, 1) := by decide +kernel
theorem dX3_worth_18 : decode cX3_worth 18 = .ok (.bipush 16, 2) := by decide +kernel
theorem dX3_worth_20 : decode cX3_worth 20 = .ok (.ishr, 1) := by decide +kernel
theorem dX3_worth_21 : decode cX3_worth 21 = .ok (.istore 4, 2) := by decide +kernel
theorem dX3_worth_23 : decode cX3_worth 23 = .ok (.aload_n 0, 1) := by decide +kernel
theorem dX3_worth_24 : decode cX3_worth 24 = .ok (.getfield 9, 3) := by decide +kernel
theorem dX3_worth_27 : decode cX3_worth 27 = .ok (.iload_n 3, 1) := by decide +kernel
theorem dX3_worth_28 : decode cX3_worth 28 = .ok (.iaload, 1) := by decide +kernel
theorem dX3_worth_29 : decode cX3_worth 29 = .ok (.ldc 28, 2) := by decide +kernel
theorem dX3_worth_31 : decode cX3_worth 31 = .ok (.iand, 1) := by decide +kernel
theorem dX3_worth_32 : decode cX3_worth 32 = .ok (.istore 5, 2) := by decide +kernel
theorem dX3_worth_34 : decode cX3_worth 34 = .ok (.iload_n 2, 1) := by decide +kernel
theorem dX3_worth_35 : decode cX3_worth 35 = .ok (.iload 4, 2) := by decide +kernel
theorem dX3_worth_37 : decode cX3_worth 37 = .ok (.invokestatic 29, 3) := by decide +kernel
theorem dX3_worth_40 : decode cX3_worth 40 = .ok (.if_icmp .lt 23, 3) := by decide +kernel
theorem dX3_worth_43 : decode cX3_worth 43 = .ok (.iload_n 2, 1) := by decide +kernel
theorem dX3_worth_44 : decode cX3_worth 44 = .ok (.bipush 32, 2) := by decide +kernel
theorem dX3_worth_46 : decode cX3_worth 46 = .ok (.if_icmp .ge 17, 3) := by decide +kernel
theorem dX3_worth_49 : decode cX3_worth 49 = .ok (.iload 4, 2) := by decide +kernel
theorem dX3_worth_51 : decode cX3_worth 51 = .ok (.bipush 121, 2) := by decide +kernel
theorem dX3_worth_53 : decode cX3_worth 53 = .ok (.if_icmp .ne 12, 3) := by decide +kernel
theorem dX3_worth_56 : decode cX3_worth 56 = .ok (.iload 5, 2) := by decide +kernel
theorem dX3_worth_58 : decode cX3_worth 58 = .ok (.aload_n 1, 1) := by decide +kernel
theorem dX3_worth_59 : decode cX3_worth 59 = .ok (.arraylength, 1) := by decide +kernel
theorem dX3_worth_60 : decode cX3_worth 60 = .ok (.if_icmp .lt 5, 3) := by decide +kernel
theorem dX3_worth_63 : decode cX3_worth 63 = .ok (.iconst 0, 1) := by decide +kernel
theorem dX3_worth_64 : decode cX3_worth 64 = .ok (.ireturn, 1) := by decide +kernel
theorem dX3_worth_65 : decode cX3_worth 65 = .ok (.iload 4, 2) := by decide +kernel
theorem dX3_worth_67 : decode cX3_worth 67 = .ok (.bipush 48, 2) := by decide +kernel
theorem dX3_worth_69 : decode cX3_worth 69 = .ok (.if_icmp .eq 10, 3) := by decide +kernel
theorem dX3_worth_72 : decode cX3_worth 72 = .ok (.iload 4, 2) := by decide +kernel
theorem dX3_worth_74 : decode cX3_worth 74 = .ok (.bipush 121, 2) := by decide +kernel
theorem dX3_worth_76 : decode cX3_worth 76 = .ok (.if_icmp .ne 31, 3) := by decide +kernel
theorem dX3_worth_79 : decode cX3_worth 79 = .ok (.aload_n 0, 1) := by decide +kernel
theorem dX3_worth_80 : decode cX3_worth 80 = .ok (.getfield 15, 3) := by decide +kernel
theorem dX3_worth_83 : decode cX3_worth 83 = .ok (.iload_n 2, 1) := by decide +kernel
theorem dX3_worth_84 : decode cX3_worth 84 = .ok (.iload 4, 2) := by decide +kernel
theorem dX3_worth_86 : decode cX3_worth 86 = .ok (.bipush 48, 2) := by decide +kernel
theorem dX3_worth_88 : decode cX3_worth 88 = .ok (.if_icmp .ne 8, 3) := by decide +kernel
theorem dX3_worth_91 : decode cX3_worth 91 = .ok (.iload 5, 2) := by decide +kernel
theorem dX3_worth_93 : decode cX3_worth 93 = .ok (.goto 7, 3) := by decide +kernel
theorem dX3_worth_96 : decode cX3_worth 96 = .ok (.aload_n 1, 1) := by decide +kernel
theorem dX3_worth_97 : decode cX3_worth 97 = .ok (.iload 5, 2) := by decide +kernel
theorem dX3_worth_99 : decode cX3_worth 99 = .ok (.iaload, 1) := by decide +kernel
theorem dX3_worth_100 : decode cX3_worth 100 = .ok (.iastore, 1) := by decide +kernel
theorem dX3_worth_101 : decode cX3_worth 101 = .ok (.iinc 2 1, 3) := by decide +kernel
theorem dX3_worth_104 : decode cX3_worth 104 = .ok (.goto 119, 3) := by decide +kernel
theorem dX3_worth_107 : decode cX3_worth 107 = .ok (.iload 4, 2) := by decide +kernel
theorem dX3_worth_109 : decode cX3_worth 109 = .ok (.bipush 59, 2) := by decide +kernel
theorem dX3_worth_111 : decode cX3_worth 111 = .ok (.if_icmp .ne 12, 3) := by decide +kernel
theorem dX3_worth_114 : decode cX3_worth 114 = .ok (.aload_n 0, 1) := by decide +kernel
theorem dX3_worth_115 : decode cX3_worth 115 = .ok (.getfield 15, 3) := by decide +kernel
theorem dX3_worth_118 : decode cX3_worth 118 = .ok (.iload_n 2, 1) := by decide +kernel
theorem dX3_worth_119 : decode cX3_worth 119 = .ok (.iconst 1, 1) := by decide +kernel
theorem dX3_worth_120 : decode cX3_worth 120 = .ok (.isub, 1) := by decide +kernel
theorem dX3_worth_121 : decode cX3_worth 121 = .ok (.iaload, 1) := by decide +kernel
theorem dX3_worth_122 : decode cX3_worth 122 = .ok (.ireturn, 1) := by decide +kernel
theorem dX3_worth_123 : decode cX3_worth 123 = .ok (.iload 4, 2) := by decide +kernel
theorem dX3_worth_125 : decode cX3_worth 125 = .ok (.bipush 63, 2) := by decide +kernel
theorem dX3_worth_127 : decode cX3_worth 127 = .ok (.if_icmp .ne 31, 3) := by decide +kernel
theorem dX3_worth_130 : decode cX3_worth 130 = .ok (.iinc 2 (-1), 3) := by decide +kernel
theorem dX3_worth_133 : decode cX3_worth 133 = .ok (.aload_n 0, 1) := by decide +kernel
theorem dX3_worth_134 : decode cX3_worth 134 = .ok (.getfield 15, 3) := by decide +kernel
theorem dX3_worth_137 : decode cX3_worth 137 = .ok (.iload_n 2, 1) := by decide +kernel
theorem dX3_worth_138 : decode cX3_worth 138 = .ok (.iaload, 1) := by decide +kernel
theorem dX3_worth_139 : decode cX3_worth 139 = .ok (.ifCond .ne 14, 3) := by decide +kernel
theorem dX3_worth_142 : decode cX3_worth 142 = .ok (.iload_n 3, 1) := by decide +kernel
theorem dX3_worth_143 : decode cX3_worth 143 = .ok (.iload 5, 2) := by decide +kernel
theorem dX3_worth_145 : decode cX3_worth 145 = .ok (.iconst 1, 1) := by decide +kernel
theorem dX3_worth_146 : decode cX3_worth 146 = .ok (.isub, 1) := by decide +kernel
theorem dX3_worth_147 : decode cX3_worth 147 = .ok (.invokestatic 33, 3) := by decide +kernel
theorem dX3_worth_150 : decode cX3_worth 150 = .ok (.goto 4, 3) := by decide +kernel
theorem dX3_worth_153 : decode cX3_worth 153 = .ok (.iload_n 3, 1) := by decide +kernel
theorem dX3_worth_154 : decode cX3_worth 154 = .ok (.istore_n 3, 1) := by decide +kernel
theorem dX3_worth_155 : decode cX3_worth 155 = .ok (.goto 68, 3) := by decide +kernel
theorem dX3_worth_158 : decode cX3_worth 158 = .ok (.iload 4, 2) := by decide +kernel
theorem dX3_worth_160 : decode cX3_worth 160 = .ok (.bipush 33, 2) := by decide +kernel
theorem dX3_worth_162 : decode cX3_worth 162 = .ok (.if_icmp .ne 24, 3) := by decide +kernel
theorem dX3_worth_165 : decode cX3_worth 165 = .ok (.aload_n 0, 1) := by decide +kernel
theorem dX3_worth_166 : decode cX3_worth 166 = .ok (.getfield 15, 3) := by decide +kernel
theorem dX3_worth_169 : decode cX3_worth 169 = .ok (.iload_n 2, 1) := by decide +kernel
theorem dX3_worth_170 : decode cX3_worth 170 = .ok (.iconst 1, 1) := by decide +kernel
theorem dX3_worth_171 : decode cX3_worth 171 = .ok (.isub, 1) := by decide +kernel
theorem dX3_worth_172 : decode cX3_worth 172 = .ok (.iconst 1, 1) := by decide +kernel
theorem dX3_worth_173 : decode cX3_worth 173 = .ok (.aload_n 0, 1) := by decide +kernel
theorem dX3_worth_174 : decode cX3_worth 174 = .ok (.getfield 15, 3) := by decide +kernel
theorem dX3_worth_177 : decode cX3_worth 177 = .ok (.iload_n 2, 1) := by decide +kernel
theorem dX3_worth_178 : decode cX3_worth 178 = .ok (.iconst 1, 1) := by decide +kernel
theorem dX3_worth_179 : decode cX3_worth 179 = .ok (.isub, 1) := by decide +kernel
theorem dX3_worth_180 : decode cX3_worth 180 = .ok (.iaload, 1) := by decide +kernel
theorem dX3_worth_181 : decode cX3_worth 181 = .ok (.isub, 1) := by decide +kernel
theorem dX3_worth_182 : decode cX3_worth 182 = .ok (.iastore, 1) := by decide +kernel
theorem dX3_worth_183 : decode cX3_worth 183 = .ok (.goto 40, 3) := by decide +kernel
theorem dX3_worth_186 : decode cX3_worth 186 = .ok (.iinc 2 (-1), 3) := by decide +kernel
theorem dX3_worth_189 : decode cX3_worth 189 = .ok (.aload_n 0, 1) := by decide +kernel
theorem dX3_worth_190 : decode cX3_worth 190 = .ok (.getfield 15, 3) := by decide +kernel
theorem dX3_worth_193 : decode cX3_worth 193 = .ok (.iload_n 2, 1) := by decide +kernel
theorem dX3_worth_194 : decode cX3_worth 194 = .ok (.iconst 1, 1) := by decide +kernel
theorem dX3_worth_195 : decode cX3_worth 195 = .ok (.isub, 1) := by decide +kernel
theorem dX3_worth_196 : decode cX3_worth 196 = .ok (.iload 4, 2) := by decide +kernel
theorem dX3_worth_198 : decode cX3_worth 198 = .ok (.aload_n 0, 1) := by decide +kernel
theorem dX3_worth_199 : decode cX3_worth 199 = .ok (.getfield 15, 3) := by decide +kernel
theorem dX3_worth_202 : decode cX3_worth 202 = .ok (.iload_n 2, 1) := by decide +kernel
theorem dX3_worth_203 : decode cX3_worth 203 = .ok (.iconst 1, 1) := by decide +kernel
theorem dX3_worth_204 : decode cX3_worth 204 = .ok (.isub, 1) := by decide +kernel
theorem dX3_worth_205 : decode cX3_worth 205 = .ok (.iaload, 1) := by decide +kernel
theorem dX3_worth_206 : decode cX3_worth 206 = .ok (.i2l, 1) := by decide +kernel
theorem dX3_worth_207 : decode cX3_worth 207 = .ok (.aload_n 0, 1) := by decide +kernel
theorem dX3_worth_208 : decode cX3_worth 208 = .ok (.getfield 15, 3) := by decide +kernel
theorem dX3_worth_211 : decode cX3_worth 211 = .ok (.iload_n 2, 1) := by decide +kernel
theorem dX3_worth_212 : decode cX3_worth 212 = .ok (.iaload, 1) := by decide +kernel
theorem dX3_worth_213 : decode cX3_worth 213 = .ok (.i2l, 1) := by decide +kernel
theorem dX3_worth_214 : decode cX3_worth 214 = .ok (.invokestatic 39, 3) := by decide +kernel
theorem dX3_worth_217 : decode cX3_worth 217 = .ok (.ldc 43, 2) := by decide +kernel
theorem dX3_worth_219 : decode cX3_worth 219 = .ok (.invokestatic 44, 3) := by decide +kernel
theorem dX3_worth_222 : decode cX3_worth 222 = .ok (.iastore, 1) := by decide +kernel
theorem dX3_worth_223 : decode cX3_worth 223 = .ok (.iinc 3 1, 3) := by decide +kernel
theorem dX3_worth_226 : decode cX3_worth 226 = .ok (.goto (-222), 3) := by decide +kernel
theorem dX3_worth_229 : decode cX3_worth 229 = .ok (.iconst 0, 1) := by decide +kernel
theorem dX3_worth_230 : decode cX3_worth 230 = .ok (.ireturn, 1) := by decide +kernel
def w_X3_takenBy : List Cond := .code yX3_takenBy cX3_takenBy 1 (some .int) :: ([] ++ ([]))
theorem sw_X3_takenBy_1 (x : Int32) : x = 33 ∨ x = 48 ∨ x = 59 ∨ x = 63 ∨ x = 121 ∨ (¬ x = 33 ∧ ¬ x = 48 ∧ ¬ x = 59 ∧ ¬ x = 63 ∧ ¬ x = 121) := by
  by_cases h0 : x = 33
  · exact Or.inl h0
  by_cases h1 : x = 48
  · exact Or.inr (Or.inl h1)
  by_cases h2 : x = 59
  · exact Or.inr (Or.inr (Or.inl h2))
  by_cases h3 : x = 63
  · exact Or.inr (Or.inr (Or.inr (Or.inl h3)))
  by_cases h4 : x = 121
  · exact Or.inr (Or.inr (Or.inr (Or.inr (Or.inl h4))))
  have t0 := ti_ne h0
  have k0 : (33 : Int32).toInt = 33 := rfl
  have t1 := ti_ne h1
  have k1 : (48 : Int32).toInt = 48 := rfl
  have t2 := ti_ne h2
  have k2 : (59 : Int32).toInt = 59 := rfl
  have t3 := ti_ne h3
  have k3 : (63 : Int32).toInt = 63 := rfl
  have t4 := ti_ne h4
  have k4 : (121 : Int32).toInt = 121 := rfl
  exact Or.inr (Or.inr (Or.inr (Or.inr (Or.inr (⟨h0, h1, h2, h3, h4⟩)))))
set_option maxHeartbeats 4000000 in
set_option maxRecDepth 100000 in
theorem c_X3_takenBy (l : Launch) (E : py_E) (G : wf_G) (L : List Nat) (f : py_F) (sz : Nat) (a : Int32) (hG : GT G) (hWF : WF E G L f) : Met l yX3_takenBy w_X3_takenBy ({ frames := 0, cells := 0, slots := 0, locals := 0 }) (py_Pc E [.int a] L f sz) (py_Qi E L f sz (fun r L1 f1 => (a.toInt ≠ 48 → a.toInt ≠ 121 → 1 ≤ r.toInt) ∧ (a.toInt ≠ 48 → a.toInt ≠ 121 → a.toInt ≠ 59 → a.toInt ≠ 63 → a.toInt ≠ 33 → 2 ≤ r.toInt) ∧ L = L1 ∧ f = f1)) 0 0 (va_A (va_pl L f) sz) := by
  refine Met.ofW (cc := cX3_takenBy) (maxL := 1) (ret := (some .int)) (by decide) rfl ?_
  intro p e s m args below meth c s₁ B hml hv
  obtain ⟨rfl, rfl, hw⟩ := py_start hv
  have G0 : CallFix p m c cX3_takenBy 1 s _ w_X3_takenBy RX3 := ⟨B.exec, B.bytes, hml, findClass_of_methodNamed B.named, atoms_spec (ws := w_X3_takenBy) B.pre⟩
  have hr := B.returns
  have hlk := B.notSynchronized
  have kcm1 : (-1 : Int32).toInt = -1 := rfl
  have kc0 : (0 : Int32).toInt = 0 := rfl
  have kc1 : (1 : Int32).toInt = 1 := rfl
  have kc2 : (2 : Int32).toInt = 2 := rfl
  have kc33 : (33 : Int32).toInt = 33 := rfl
  have kc48 : (48 : Int32).toInt = 48 := rfl
  have kc59 : (59 : Int32).toInt = 59 := rfl
  have kc63 : (63 : Int32).toInt = 63 := rfl
  have kc121 : (121 : Int32).toInt = 121 := rfl
  have hl := lv_entry ([.int a]) (n := 1) (Nat.le_of_ble_eq_true rfl)
  rw [lg_entry_eq]
  generalize (lg_sl ([.int a]) ++ List.replicate (1 - (lg_sl ([.int a])).length) Slot.unset).toArray = ls at hl ⊢
  have hl : lv_has ls 1 [(0, .int a)] := hl
  have hRP : RP E G f f := RP.refl
  refine lv_iload_n G0.1 G0.2.1 dX3_takenBy_0 rfl (lv_at hl 0 rfl) ?_
  rcases sw_X3_takenBy_1 a with e_sw | e_sw | e_sw | e_sw | e_sw | e_sw
  · skip
    have te := ti_eq e_sw
    refine lv_lookup (off := 53) (tgt := 54) G0.1 G0.2.1 dX3_takenBy_1 (by decide) (by rw [e_sw]; decide) (by decide) ?_
    refine lv_iconst (v := 1) G0.1 G0.2.1 dX3_takenBy_54 (by decide) ?_
    exact py_iret G0 hr rfl hlk hw ⟨(by first | omega | (intro q; omega)), (by first | omega | (intro q; omega)), rfl, rfl⟩ dX3_takenBy_55
  · skip
    have te := ti_eq e_sw
    refine lv_lookup (off := 51) (tgt := 52) G0.1 G0.2.1 dX3_takenBy_1 (by decide) (by rw [e_sw]; decide) (by decide) ?_
    refine lv_iconst (v := 0) G0.1 G0.2.1 dX3_takenBy_52 (by decide) ?_
    exact py_iret G0 hr rfl hlk hw ⟨(by first | omega | (intro q; omega)), (by first | omega | (intro q; omega)), rfl, rfl⟩ dX3_takenBy_53
  · skip
    have te := ti_eq e_sw
    refine lv_lookup (off := 53) (tgt := 54) G0.1 G0.2.1 dX3_takenBy_1 (by decide) (by rw [e_sw]; decide) (by decide) ?_
    refine lv_iconst (v := 1) G0.1 G0.2.1 dX3_takenBy_54 (by decide) ?_
    exact py_iret G0 hr rfl hlk hw ⟨(by first | omega | (intro q; omega)), (by first | omega | (intro q; omega)), rfl, rfl⟩ dX3_takenBy_55
  · skip
    have te := ti_eq e_sw
    refine lv_lookup (off := 53) (tgt := 54) G0.1 G0.2.1 dX3_takenBy_1 (by decide) (by rw [e_sw]; decide) (by decide) ?_
    refine lv_iconst (v := 1) G0.1 G0.2.1 dX3_takenBy_54 (by decide) ?_
    exact py_iret G0 hr rfl hlk hw ⟨(by first | omega | (intro q; omega)), (by first | omega | (intro q; omega)), rfl, rfl⟩ dX3_takenBy_55
  · skip
    have te := ti_eq e_sw
    refine lv_lookup (off := 51) (tgt := 52) G0.1 G0.2.1 dX3_takenBy_1 (by decide) (by rw [e_sw]; decide) (by decide) ?_
    refine lv_iconst (v := 0) G0.1 G0.2.1 dX3_takenBy_52 (by decide) ?_
    exact py_iret G0 hr rfl hlk hw ⟨(by first | omega | (intro q; omega)), (by first | omega | (intro q; omega)), rfl, rfl⟩ dX3_takenBy_53
  · skip
    have te0 := ti_ne e_sw.1
    have te1 := ti_ne e_sw.2.1
    have te2 := ti_ne e_sw.2.2.1
    have te3 := ti_ne e_sw.2.2.2.1
    have te4 := ti_ne e_sw.2.2.2.2
    refine lv_lookup (off := 55) (tgt := 56) G0.1 G0.2.1 dX3_takenBy_1 (by decide) ((lv_osw e_sw.1 (rfl : (33 : Int32).toInt = 33)).trans ((lv_osw e_sw.2.1 (rfl : (48 : Int32).toInt = 48)).trans ((lv_osw e_sw.2.2.1 (rfl : (59 : Int32).toInt = 59)).trans ((lv_osw e_sw.2.2.2.1 (rfl : (63 : Int32).toInt = 63)).trans ((lv_osw e_sw.2.2.2.2 (rfl : (121 : Int32).toInt = 121)).trans rfl))))) (by decide) ?_
    refine lv_iconst (v := 2) G0.1 G0.2.1 dX3_takenBy_56 (by decide) ?_
    exact py_iret G0 hr rfl hlk hw ⟨(by first | omega | (intro q; omega)), (by first | omega | (intro q; omega)), rfl, rfl⟩ dX3_takenBy_57

def w_X3_joined : List Cond := .code yX3_joined cX3_joined 5 (some .long) :: ([] ++ ([]))
theorem sw_X3_joined_1 (x : Int32) : x = 38 ∨ x = 39 ∨ x = 40 ∨ x = 41 ∨ x = 42 ∨ x = 43 ∨ x = 44 ∨ x = 45 ∨ x = 46 ∨ x = 47 ∨ x = 48 ∨ x = 49 ∨ x = 50 ∨ x = 51 ∨ x = 52 ∨ x = 53 ∨ x = 54 ∨ x = 55 ∨ x = 56 ∨ x = 57 ∨ x = 58 ∨ x = 59 ∨ x = 60 ∨ x = 61 ∨ x = 62 ∨ (x.toInt < 38 ∨ 62 < x.toInt) := by
  by_cases h0 : x = 38
  · exact Or.inl h0
  by_cases h1 : x = 39
  · exact Or.inr (Or.inl h1)
  by_cases h2 : x = 40
  · exact Or.inr (Or.inr (Or.inl h2))
  by_cases h3 : x = 41
  · exact Or.inr (Or.inr (Or.inr (Or.inl h3)))
  by_cases h4 : x = 42
  · exact Or.inr (Or.inr (Or.inr (Or.inr (Or.inl h4))))
  by_cases h5 : x = 43
  · exact Or.inr (Or.inr (Or.inr (Or.inr (Or.inr (Or.inl h5)))))
  by_cases h6 : x = 44
  · exact Or.inr (Or.inr (Or.inr (Or.inr (Or.inr (Or.inr (Or.inl h6))))))
  by_cases h7 : x = 45
  · exact Or.inr (Or.inr (Or.inr (Or.inr (Or.inr (Or.inr (Or.inr (Or.inl h7)))))))
  by_cases h8 : x = 46
  · exact Or.inr (Or.inr (Or.inr (Or.inr (Or.inr (Or.inr (Or.inr (Or.inr (Or.inl h8))))))))
  by_cases h9 : x = 47
  · exact Or.inr (Or.inr (Or.inr (Or.inr (Or.inr (Or.inr (Or.inr (Or.inr (Or.inr (Or.inl h9)))))))))
  by_cases h10 : x = 48
  · exact Or.inr (Or.inr (Or.inr (Or.inr (Or.inr (Or.inr (Or.inr (Or.inr (Or.inr (Or.inr (Or.inl h10))))))))))
  by_cases h11 : x = 49
  · exact Or.inr (Or.inr (Or.inr (Or.inr (Or.inr (Or.inr (Or.inr (Or.inr (Or.inr (Or.inr (Or.inr (Or.inl h11)))))))))))
  by_cases h12 : x = 50
  · exact Or.inr (Or.inr (Or.inr (Or.inr (Or.inr (Or.inr (Or.inr (Or.inr (Or.inr (Or.inr (Or.inr (Or.inr (Or.inl h12))))))))))))
  by_cases h13 : x = 51
  · exact Or.inr (Or.inr (Or.inr (Or.inr (Or.inr (Or.inr (Or.inr (Or.inr (Or.inr (Or.inr (Or.inr (Or.inr (Or.inr (Or.inl h13)))))))))))))
  by_cases h14 : x = 52
  · exact Or.inr (Or.inr (Or.inr (Or.inr (Or.inr (Or.inr (Or.inr (Or.inr (Or.inr (Or.inr (Or.inr (Or.inr (Or.inr (Or.inr (Or.inl h14))))))))))))))
  by_cases h15 : x = 53
  · exact Or.inr (Or.inr (Or.inr (Or.inr (Or.inr (Or.inr (Or.inr (Or.inr (Or.inr (Or.inr (Or.inr (Or.inr (Or.inr (Or.inr (Or.inr (Or.inl h15)))))))))))))))
  by_cases h16 : x = 54
  · exact Or.inr (Or.inr (Or.inr (Or.inr (Or.inr (Or.inr (Or.inr (Or.inr (Or.inr (Or.inr (Or.inr (Or.inr (Or.inr (Or.inr (Or.inr (Or.inr (Or.inl h16))))))))))))))))
  by_cases h17 : x = 55
  · exact Or.inr (Or.inr (Or.inr (Or.inr (Or.inr (Or.inr (Or.inr (Or.inr (Or.inr (Or.inr (Or.inr (Or.inr (Or.inr (Or.inr (Or.inr (Or.inr (Or.inr (Or.inl h17)))))))))))))))))
  by_cases h18 : x = 56
  · exact Or.inr (Or.inr (Or.inr (Or.inr (Or.inr (Or.inr (Or.inr (Or.inr (Or.inr (Or.inr (Or.inr (Or.inr (Or.inr (Or.inr (Or.inr (Or.inr (Or.inr (Or.inr (Or.inl h18))))))))))))))))))
  by_cases h19 : x = 57
  · exact Or.inr (Or.inr (Or.inr (Or.inr (Or.inr (Or.inr (Or.inr (Or.inr (Or.inr (Or.inr (Or.inr (Or.inr (Or.inr (Or.inr (Or.inr (Or.inr (Or.inr (Or.inr (Or.inr (Or.inl h19)))))))))))))))))))
  by_cases h20 : x = 58
  · exact Or.inr (Or.inr (Or.inr (Or.inr (Or.inr (Or.inr (Or.inr (Or.inr (Or.inr (Or.inr (Or.inr (Or.inr (Or.inr (Or.inr (Or.inr (Or.inr (Or.inr (Or.inr (Or.inr (Or.inr (Or.inl h20))))))))))))))))))))
  by_cases h21 : x = 59
  · exact Or.inr (Or.inr (Or.inr (Or.inr (Or.inr (Or.inr (Or.inr (Or.inr (Or.inr (Or.inr (Or.inr (Or.inr (Or.inr (Or.inr (Or.inr (Or.inr (Or.inr (Or.inr (Or.inr (Or.inr (Or.inr (Or.inl h21)))))))))))))))))))))
  by_cases h22 : x = 60
  · exact Or.inr (Or.inr (Or.inr (Or.inr (Or.inr (Or.inr (Or.inr (Or.inr (Or.inr (Or.inr (Or.inr (Or.inr (Or.inr (Or.inr (Or.inr (Or.inr (Or.inr (Or.inr (Or.inr (Or.inr (Or.inr (Or.inr (Or.inl h22))))))))))))))))))))))
  by_cases h23 : x = 61
  · exact Or.inr (Or.inr (Or.inr (Or.inr (Or.inr (Or.inr (Or.inr (Or.inr (Or.inr (Or.inr (Or.inr (Or.inr (Or.inr (Or.inr (Or.inr (Or.inr (Or.inr (Or.inr (Or.inr (Or.inr (Or.inr (Or.inr (Or.inr (Or.inl h23)))))))))))))))))))))))
  by_cases h24 : x = 62
  · exact Or.inr (Or.inr (Or.inr (Or.inr (Or.inr (Or.inr (Or.inr (Or.inr (Or.inr (Or.inr (Or.inr (Or.inr (Or.inr (Or.inr (Or.inr (Or.inr (Or.inr (Or.inr (Or.inr (Or.inr (Or.inr (Or.inr (Or.inr (Or.inr (Or.inl h24))))))))))))))))))))))))
  have t0 := ti_ne h0
  have k0 : (38 : Int32).toInt = 38 := rfl
  have t1 := ti_ne h1
  have k1 : (39 : Int32).toInt = 39 := rfl
  have t2 := ti_ne h2
  have k2 : (40 : Int32).toInt = 40 := rfl
  have t3 := ti_ne h3
  have k3 : (41 : Int32).toInt = 41 := rfl
  have t4 := ti_ne h4
  have k4 : (42 : Int32).toInt = 42 := rfl
  have t5 := ti_ne h5
  have k5 : (43 : Int32).toInt = 43 := rfl
  have t6 := ti_ne h6
  have k6 : (44 : Int32).toInt = 44 := rfl
  have t7 := ti_ne h7
  have k7 : (45 : Int32).toInt = 45 := rfl
  have t8 := ti_ne h8
  have k8 : (46 : Int32).toInt = 46 := rfl
  have t9 := ti_ne h9
  have k9 : (47 : Int32).toInt = 47 := rfl
  have t10 := ti_ne h10
  have k10 : (48 : Int32).toInt = 48 := rfl
  have t11 := ti_ne h11
  have k11 : (49 : Int32).toInt = 49 := rfl
  have t12 := ti_ne h12
  have k12 : (50 : Int32).toInt = 50 := rfl
  have t13 := ti_ne h13
  have k13 : (51 : Int32).toInt = 51 := rfl
  have t14 := ti_ne h14
  have k14 : (52 : Int32).toInt = 52 := rfl
  have t15 := ti_ne h15
  have k15 : (53 : Int32).toInt = 53 := rfl
  have t16 := ti_ne h16
  have k16 : (54 : Int32).toInt = 54 := rfl
  have t17 := ti_ne h17
  have k17 : (55 : Int32).toInt = 55 := rfl
  have t18 := ti_ne h18
  have k18 : (56 : Int32).toInt = 56 := rfl
  have t19 := ti_ne h19
  have k19 : (57 : Int32).toInt = 57 := rfl
  have t20 := ti_ne h20
  have k20 : (58 : Int32).toInt = 58 := rfl
  have t21 := ti_ne h21
  have k21 : (59 : Int32).toInt = 59 := rfl
  have t22 := ti_ne h22
  have k22 : (60 : Int32).toInt = 60 := rfl
  have t23 := ti_ne h23
  have k23 : (61 : Int32).toInt = 61 := rfl
  have t24 := ti_ne h24
  have k24 : (62 : Int32).toInt = 62 := rfl
  exact Or.inr (Or.inr (Or.inr (Or.inr (Or.inr (Or.inr (Or.inr (Or.inr (Or.inr (Or.inr (Or.inr (Or.inr (Or.inr (Or.inr (Or.inr (Or.inr (Or.inr (Or.inr (Or.inr (Or.inr (Or.inr (Or.inr (Or.inr (Or.inr (Or.inr ((by omega))))))))))))))))))))))))))
set_option maxHeartbeats 4000000 in
set_option maxRecDepth 100000 in
theorem c_X3_joined (l : Launch) (E : py_E) (G : wf_G) (L : List Nat) (f : py_F) (sz : Nat) (a : Int32) (b : Int64) (q : Int64) (hG : GT G) (hWF : WF E G L f) : Met l yX3_joined w_X3_joined ({ frames := 0, cells := 0, slots := 0, locals := 0 }) (py_Pc E [.int a, .long b, .long q] L f sz) (py_Ql E L f sz (fun _ L1 f1 => L = L1 ∧ f = f1)) 0 0 (va_A (va_pl L f) sz) := by
  refine Met.ofW (cc := cX3_joined) (maxL := 5) (ret := (some .long)) (by decide) rfl ?_
  intro p e s m args below meth c s₁ B hml hv
  obtain ⟨rfl, rfl, hw⟩ := py_start hv
  have G0 : CallFix p m c cX3_joined 5 s _ w_X3_joined RX3 := ⟨B.exec, B.bytes, hml, findClass_of_methodNamed B.named, atoms_spec (ws := w_X3_joined) B.pre⟩
  have hr := B.returns
  have hlk := B.notSynchronized
  have kcm1 : (-1 : Int32).toInt = -1 := rfl
  have kc0 : (0 : Int32).toInt = 0 := rfl
  have kc1 : (1 : Int32).toInt = 1 := rfl
  have kc38 : (38 : Int32).toInt = 38 := rfl
  have kc39 : (39 : Int32).toInt = 39 := rfl
  have kc40 : (40 : Int32).toInt = 40 := rfl
  have kc41 : (41 : Int32).toInt = 41 := rfl
  have kc42 : (42 : Int32).toInt = 42 := rfl
  have kc43 : (43 : Int32).toInt = 43 := rfl
  have kc44 : (44 : Int32).toInt = 44 := rfl
  have kc45 : (45 : Int32).toInt = 45 := rfl
  have kc46 : (46 : Int32).toInt = 46 := rfl
  have kc47 : (47 : Int32).toInt = 47 := rfl
  have kc48 : (48 : Int32).toInt = 48 := rfl
  have kc49 : (49 : Int32).toInt = 49 := rfl
  have kc50 : (50 : Int32).toInt = 50 := rfl
  have kc51 : (51 : Int32).toInt = 51 := rfl
  have kc52 : (52 : Int32).toInt = 52 := rfl
  have kc53 : (53 : Int32).toInt = 53 := rfl
  have kc54 : (54 : Int32).toInt = 54 := rfl
  have kc55 : (55 : Int32).toInt = 55 := rfl
  have kc56 : (56 : Int32).toInt = 56 := rfl
  have kc57 : (57 : Int32).toInt = 57 := rfl
  have kc58 : (58 : Int32).toInt = 58 := rfl
  have kc59 : (59 : Int32).toInt = 59 := rfl
  have kc60 : (60 : Int32).toInt = 60 := rfl
  have kc61 : (61 : Int32).toInt = 61 := rfl
  have kc62 : (62 : Int32).toInt = 62 := rfl
  have hl := lv_entry ([.int a, .long b, .long q]) (n := 5) (Nat.le_of_ble_eq_true rfl)
  rw [lg_entry_eq]
  generalize (lg_sl ([.int a, .long b, .long q]) ++ List.replicate (5 - (lg_sl ([.int a, .long b, .long q])).length) Slot.unset).toArray = ls at hl ⊢
  have hl : lv_has ls 5 [(0, .int a), (1, .long b), (3, .long q)] := hl
  have hRP : RP E G f f := RP.refl
  refine lv_iload_n G0.1 G0.2.1 dX3_joined_0 rfl (lv_at hl 0 rfl) ?_
  rcases sw_X3_joined_1 a with e_sw | e_sw | e_sw | e_sw | e_sw | e_sw | e_sw | e_sw | e_sw | e_sw | e_sw | e_sw | e_sw | e_sw | e_sw | e_sw | e_sw | e_sw | e_sw | e_sw | e_sw | e_sw | e_sw | e_sw | e_sw | e_sw
  · skip
    have te := ti_eq e_sw
    refine lv_tableIn (off := 177) (tgt := 178) G0.1 G0.2.1 dX3_joined_1 (by omega) (by omega) (by rw [e_sw]; decide) (by decide) ?_
    refine lv_lload_n G0.1 G0.2.1 dX3_joined_178 rfl (lv_at hl 1 rfl) ?_
    refine lv_lconst (v := 0) G0.1 G0.2.1 dX3_joined_179 (by decide) ?_
    refine W.lcmp G0.1 G0.2.1 dX3_joined_180 ?_
    refine lv_topi (fun x_1 ex_1 => ?_)
    have jn_195 : ∀ (v_2 : Int64) (H_j195 : Heap) (locs : List Loc) (ls : Array Slot), py_W E (va_A (va_pl L f) s.heap.size) s L f H_j195 locs → lv_has ls 5 [(0, .int a), (1, .long b), (3, .long q)] → W p l e (headSpec w_X3_joined ({ frames := 0, cells := 0, slots := 0, locals := 0 })).room s m ([.int a, .long b, .long q] : List Value).toArray below meth c H_j195 locs 0 0 (MQ below (py_Ql E L f s.heap.size (fun _ L1 f1 => L = L1 ∧ f = f1)) ([.int a, .long b, .long q] : List Value).toArray s 0 0 (va_A (va_pl L f) s.heap.size)) (F0 m 195 ls [.long v_2]) := by
      intro v_2 H_j195 locs ls hw hl
      exact py_lret G0 hr hlk hw ⟨rfl, rfl⟩ dX3_joined_195
    refine lv_if_eq (tgt := 194) G0.1 G0.2.1 dX3_joined_181 (by decide) (fun c_3 => ?_) (fun c_3 => ?_)
    · skip
      have tc_3 := ti_eq c_3
      refine lv_lconst (v := 0) G0.1 G0.2.1 dX3_joined_194 (by decide) ?_
      exact jn_195 0 _ _ ls hw (lv_sub hl [0, 1, 2] rfl)
    · skip
      have tc_3 := ti_ne c_3
      refine lv_lload_n G0.1 G0.2.1 dX3_joined_184 rfl (lv_at hl 2 rfl) ?_
      refine lv_lconst (v := 0) G0.1 G0.2.1 dX3_joined_185 (by decide) ?_
      refine W.lcmp G0.1 G0.2.1 dX3_joined_186 ?_
      refine lv_topi (fun x_4 ex_4 => ?_)
      refine lv_if_eq (tgt := 194) G0.1 G0.2.1 dX3_joined_187 (by decide) (fun c_5 => ?_) (fun c_5 => ?_)
      · skip
        have tc_5 := ti_eq c_5
        refine lv_lconst (v := 0) G0.1 G0.2.1 dX3_joined_194 (by decide) ?_
        exact jn_195 0 _ _ ls hw (lv_sub hl [0, 1, 2] rfl)
      · skip
        have tc_5 := ti_ne c_5
        refine lv_lconst (v := 1) G0.1 G0.2.1 dX3_joined_190 (by decide) ?_
        refine lv_goto (tgt := 195) G0.1 G0.2.1 dX3_joined_191 (by decide) ?_
        exact jn_195 1 _ _ ls hw (lv_sub hl [0, 1, 2] rfl)
  · skip
    have te := ti_eq e_sw
    refine lv_tableIn (off := 195) (tgt := 196) G0.1 G0.2.1 dX3_joined_1 (by omega) (by omega) (by rw [e_sw]; decide) (by decide) ?_
    refine lv_lload_n G0.1 G0.2.1 dX3_joined_196 rfl (lv_at hl 1 rfl) ?_
    refine lv_lconst (v := 0) G0.1 G0.2.1 dX3_joined_197 (by decide) ?_
    refine W.lcmp G0.1 G0.2.1 dX3_joined_198 ?_
    refine lv_topi (fun x_6 ex_6 => ?_)
    have jn_213 : ∀ (v_7 : Int64) (H_j213 : Heap) (locs : List Loc) (ls : Array Slot), py_W E (va_A (va_pl L f) s.heap.size) s L f H_j213 locs → lv_has ls 5 [(0, .int a), (1, .long b), (3, .long q)] → W p l e (headSpec w_X3_joined ({ frames := 0, cells := 0, slots := 0, locals := 0 })).room s m ([.int a, .long b, .long q] : List Value).toArray below meth c H_j213 locs 0 0 (MQ below (py_Ql E L f s.heap.size (fun _ L1 f1 => L = L1 ∧ f = f1)) ([.int a, .long b, .long q] : List Value).toArray s 0 0 (va_A (va_pl L f) s.heap.size)) (F0 m 213 ls [.long v_7]) := by
      intro v_7 H_j213 locs ls hw hl
      exact py_lret G0 hr hlk hw ⟨rfl, rfl⟩ dX3_joined_213
    refine lv_if_ne (tgt := 208) G0.1 G0.2.1 dX3_joined_199 (by decide) (fun c_8 => ?_) (fun c_8 => ?_)
    · skip
      have tc_8 := ti_ne c_8
      refine lv_lconst (v := 1) G0.1 G0.2.1 dX3_joined_208 (by decide) ?_
      refine lv_goto (tgt := 213) G0.1 G0.2.1 dX3_joined_209 (by decide) ?_
      exact jn_213 1 _ _ ls hw (lv_sub hl [0, 1, 2] rfl)
    · skip
      have tc_8 := ti_eq c_8
      refine lv_lload_n G0.1 G0.2.1 dX3_joined_202 rfl (lv_at hl 2 rfl) ?_
      refine lv_lconst (v := 0) G0.1 G0.2.1 dX3_joined_203 (by decide) ?_
      refine W.lcmp G0.1 G0.2.1 dX3_joined_204 ?_
      refine lv_topi (fun x_9 ex_9 => ?_)
      refine lv_if_eq (tgt := 212) G0.1 G0.2.1 dX3_joined_205 (by decide) (fun c_10 => ?_) (fun c_10 => ?_)
      · skip
        have tc_10 := ti_eq c_10
        refine lv_lconst (v := 0) G0.1 G0.2.1 dX3_joined_212 (by decide) ?_
        exact jn_213 0 _ _ ls hw (lv_sub hl [0, 1, 2] rfl)
      · skip
        have tc_10 := ti_ne c_10
        refine lv_lconst (v := 1) G0.1 G0.2.1 dX3_joined_208 (by decide) ?_
        refine lv_goto (tgt := 213) G0.1 G0.2.1 dX3_joined_209 (by decide) ?_
        exact jn_213 1 _ _ ls hw (lv_sub hl [0, 1, 2] rfl)
  · skip
    have te := ti_eq e_sw
    refine lv_tableIn (off := 195) (tgt := 196) G0.1 G0.2.1 dX3_joined_1 (by omega) (by omega) (by rw [e_sw]; decide) (by decide) ?_
    refine lv_lload_n G0.1 G0.2.1 dX3_joined_196 rfl (lv_at hl 1 rfl) ?_
    refine lv_lconst (v := 0) G0.1 G0.2.1 dX3_joined_197 (by decide) ?_
    refine W.lcmp G0.1 G0.2.1 dX3_joined_198 ?_
    refine lv_topi (fun x_11 ex_11 => ?_)
    have jn_213 : ∀ (v_12 : Int64) (H_j213 : Heap) (locs : List Loc) (ls : Array Slot), py_W E (va_A (va_pl L f) s.heap.size) s L f H_j213 locs → lv_has ls 5 [(0, .int a), (1, .long b), (3, .long q)] → W p l e (headSpec w_X3_joined ({ frames := 0, cells := 0, slots := 0, locals := 0 })).room s m ([.int a, .long b, .long q] : List Value).toArray below meth c H_j213 locs 0 0 (MQ below (py_Ql E L f s.heap.size (fun _ L1 f1 => L = L1 ∧ f = f1)) ([.int a, .long b, .long q] : List Value).toArray s 0 0 (va_A (va_pl L f) s.heap.size)) (F0 m 213 ls [.long v_12]) := by
      intro v_12 H_j213 locs ls hw hl
      exact py_lret G0 hr hlk hw ⟨rfl, rfl⟩ dX3_joined_213
    refine lv_if_ne (tgt := 208) G0.1 G0.2.1 dX3_joined_199 (by decide) (fun c_13 => ?_) (fun c_13 => ?_)
    · skip
      have tc_13 := ti_ne c_13
      refine lv_lconst (v := 1) G0.1 G0.2.1 dX3_joined_208 (by decide) ?_
      refine lv_goto (tgt := 213) G0.1 G0.2.1 dX3_joined_209 (by decide) ?_
      exact jn_213 1 _ _ ls hw (lv_sub hl [0, 1, 2] rfl)
    · skip
      have tc_13 := ti_eq c_13
      refine lv_lload_n G0.1 G0.2.1 dX3_joined_202 rfl (lv_at hl 2 rfl) ?_
      refine lv_lconst (v := 0) G0.1 G0.2.1 dX3_joined_203 (by decide) ?_
      refine W.lcmp G0.1 G0.2.1 dX3_joined_204 ?_
      refine lv_topi (fun x_14 ex_14 => ?_)
      refine lv_if_eq (tgt := 212) G0.1 G0.2.1 dX3_joined_205 (by decide) (fun c_15 => ?_) (fun c_15 => ?_)
      · skip
        have tc_15 := ti_eq c_15
        refine lv_lconst (v := 0) G0.1 G0.2.1 dX3_joined_212 (by decide) ?_
        exact jn_213 0 _ _ ls hw (lv_sub hl [0, 1, 2] rfl)
      · skip
        have tc_15 := ti_ne c_15
        refine lv_lconst (v := 1) G0.1 G0.2.1 dX3_joined_208 (by decide) ?_
        refine lv_goto (tgt := 213) G0.1 G0.2.1 dX3_joined_209 (by decide) ?_
        exact jn_213 1 _ _ ls hw (lv_sub hl [0, 1, 2] rfl)
  · skip
    have te := ti_eq e_sw
    refine lv_tableIn (off := 195) (tgt := 196) G0.1 G0.2.1 dX3_joined_1 (by omega) (by omega) (by rw [e_sw]; decide) (by decide) ?_
    refine lv_lload_n G0.1 G0.2.1 dX3_joined_196 rfl (lv_at hl 1 rfl) ?_
    refine lv_lconst (v := 0) G0.1 G0.2.1 dX3_joined_197 (by decide) ?_
    refine W.lcmp G0.1 G0.2.1 dX3_joined_198 ?_
    refine lv_topi (fun x_16 ex_16 => ?_)
    have jn_213 : ∀ (v_17 : Int64) (H_j213 : Heap) (locs : List Loc) (ls : Array Slot), py_W E (va_A (va_pl L f) s.heap.size) s L f H_j213 locs → lv_has ls 5 [(0, .int a), (1, .long b), (3, .long q)] → W p l e (headSpec w_X3_joined ({ frames := 0, cells := 0, slots := 0, locals := 0 })).room s m ([.int a, .long b, .long q] : List Value).toArray below meth c H_j213 locs 0 0 (MQ below (py_Ql E L f s.heap.size (fun _ L1 f1 => L = L1 ∧ f = f1)) ([.int a, .long b, .long q] : List Value).toArray s 0 0 (va_A (va_pl L f) s.heap.size)) (F0 m 213 ls [.long v_17]) := by
      intro v_17 H_j213 locs ls hw hl
      exact py_lret G0 hr hlk hw ⟨rfl, rfl⟩ dX3_joined_213
    refine lv_if_ne (tgt := 208) G0.1 G0.2.1 dX3_joined_199 (by decide) (fun c_18 => ?_) (fun c_18 => ?_)
    · skip
      have tc_18 := ti_ne c_18
      refine lv_lconst (v := 1) G0.1 G0.2.1 dX3_joined_208 (by decide) ?_
      refine lv_goto (tgt := 213) G0.1 G0.2.1 dX3_joined_209 (by decide) ?_
      exact jn_213 1 _ _ ls hw (lv_sub hl [0, 1, 2] rfl)
    · skip
      have tc_18 := ti_eq c_18
      refine lv_lload_n G0.1 G0.2.1 dX3_joined_202 rfl (lv_at hl 2 rfl) ?_
      refine lv_lconst (v := 0) G0.1 G0.2.1 dX3_joined_203 (by decide) ?_
      refine W.lcmp G0.1 G0.2.1 dX3_joined_204 ?_
      refine lv_topi (fun x_19 ex_19 => ?_)
      refine lv_if_eq (tgt := 212) G0.1 G0.2.1 dX3_joined_205 (by decide) (fun c_20 => ?_) (fun c_20 => ?_)
      · skip
        have tc_20 := ti_eq c_20
        refine lv_lconst (v := 0) G0.1 G0.2.1 dX3_joined_212 (by decide) ?_
        exact jn_213 0 _ _ ls hw (lv_sub hl [0, 1, 2] rfl)
      · skip
        have tc_20 := ti_ne c_20
        refine lv_lconst (v := 1) G0.1 G0.2.1 dX3_joined_208 (by decide) ?_
        refine lv_goto (tgt := 213) G0.1 G0.2.1 dX3_joined_209 (by decide) ?_
        exact jn_213 1 _ _ ls hw (lv_sub hl [0, 1, 2] rfl)
  · skip
    have te := ti_eq e_sw
    refine lv_tableIn (off := 123) (tgt := 124) G0.1 G0.2.1 dX3_joined_1 (by omega) (by omega) (by rw [e_sw]; decide) (by decide) ?_
    refine lv_lload_n G0.1 G0.2.1 dX3_joined_124 rfl (lv_at hl 1 rfl) ?_
    refine lv_lload_n G0.1 G0.2.1 dX3_joined_125 rfl (lv_at hl 2 rfl) ?_
    refine lv_lmul G0.1 G0.2.1 dX3_joined_126 ?_
    refine lv_topl (fun y_21 ey_21 => ?_)
    exact py_lret G0 hr hlk hw ⟨rfl, rfl⟩ dX3_joined_127
  · skip
    have te := ti_eq e_sw
    refine lv_tableIn (off := 115) (tgt := 116) G0.1 G0.2.1 dX3_joined_1 (by omega) (by omega) (by rw [e_sw]; decide) (by decide) ?_
    refine lv_lload_n G0.1 G0.2.1 dX3_joined_116 rfl (lv_at hl 1 rfl) ?_
    refine lv_lload_n G0.1 G0.2.1 dX3_joined_117 rfl (lv_at hl 2 rfl) ?_
    refine lv_ladd G0.1 G0.2.1 dX3_joined_118 ?_
    refine lv_topl (fun y_22 ey_22 => ?_)
    exact py_lret G0 hr hlk hw ⟨rfl, rfl⟩ dX3_joined_119
  · skip
    have te := ti_eq e_sw
    refine lv_tableIn (off := 195) (tgt := 196) G0.1 G0.2.1 dX3_joined_1 (by omega) (by omega) (by rw [e_sw]; decide) (by decide) ?_
    refine lv_lload_n G0.1 G0.2.1 dX3_joined_196 rfl (lv_at hl 1 rfl) ?_
    refine lv_lconst (v := 0) G0.1 G0.2.1 dX3_joined_197 (by decide) ?_
    refine W.lcmp G0.1 G0.2.1 dX3_joined_198 ?_
    refine lv_topi (fun x_23 ex_23 => ?_)
    have jn_213 : ∀ (v_24 : Int64) (H_j213 : Heap) (locs : List Loc) (ls : Array Slot), py_W E (va_A (va_pl L f) s.heap.size) s L f H_j213 locs → lv_has ls 5 [(0, .int a), (1, .long b), (3, .long q)] → W p l e (headSpec w_X3_joined ({ frames := 0, cells := 0, slots := 0, locals := 0 })).room s m ([.int a, .long b, .long q] : List Value).toArray below meth c H_j213 locs 0 0 (MQ below (py_Ql E L f s.heap.size (fun _ L1 f1 => L = L1 ∧ f = f1)) ([.int a, .long b, .long q] : List Value).toArray s 0 0 (va_A (va_pl L f) s.heap.size)) (F0 m 213 ls [.long v_24]) := by
      intro v_24 H_j213 locs ls hw hl
      exact py_lret G0 hr hlk hw ⟨rfl, rfl⟩ dX3_joined_213
    refine lv_if_ne (tgt := 208) G0.1 G0.2.1 dX3_joined_199 (by decide) (fun c_25 => ?_) (fun c_25 => ?_)
    · skip
      have tc_25 := ti_ne c_25
      refine lv_lconst (v := 1) G0.1 G0.2.1 dX3_joined_208 (by decide) ?_
      refine lv_goto (tgt := 213) G0.1 G0.2.1 dX3_joined_209 (by decide) ?_
      exact jn_213 1 _ _ ls hw (lv_sub hl [0, 1, 2] rfl)
    · skip
      have tc_25 := ti_eq c_25
      refine lv_lload_n G0.1 G0.2.1 dX3_joined_202 rfl (lv_at hl 2 rfl) ?_
      refine lv_lconst (v := 0) G0.1 G0.2.1 dX3_joined_203 (by decide) ?_
      refine W.lcmp G0.1 G0.2.1 dX3_joined_204 ?_
      refine lv_topi (fun x_26 ex_26 => ?_)
      refine lv_if_eq (tgt := 212) G0.1 G0.2.1 dX3_joined_205 (by decide) (fun c_27 => ?_) (fun c_27 => ?_)
      · skip
        have tc_27 := ti_eq c_27
        refine lv_lconst (v := 0) G0.1 G0.2.1 dX3_joined_212 (by decide) ?_
        exact jn_213 0 _ _ ls hw (lv_sub hl [0, 1, 2] rfl)
      · skip
        have tc_27 := ti_ne c_27
        refine lv_lconst (v := 1) G0.1 G0.2.1 dX3_joined_208 (by decide) ?_
        refine lv_goto (tgt := 213) G0.1 G0.2.1 dX3_joined_209 (by decide) ?_
        exact jn_213 1 _ _ ls hw (lv_sub hl [0, 1, 2] rfl)
  · skip
    have te := ti_eq e_sw
    refine lv_tableIn (off := 119) (tgt := 120) G0.1 G0.2.1 dX3_joined_1 (by omega) (by omega) (by rw [e_sw]; decide) (by decide) ?_
    refine lv_lload_n G0.1 G0.2.1 dX3_joined_120 rfl (lv_at hl 1 rfl) ?_
    refine lv_lload_n G0.1 G0.2.1 dX3_joined_121 rfl (lv_at hl 2 rfl) ?_
    refine lv_lsub G0.1 G0.2.1 dX3_joined_122 ?_
    refine lv_topl (fun y_28 ey_28 => ?_)
    exact py_lret G0 hr hlk hw ⟨rfl, rfl⟩ dX3_joined_123
  · skip
    have te := ti_eq e_sw
    refine lv_tableIn (off := 195) (tgt := 196) G0.1 G0.2.1 dX3_joined_1 (by omega) (by omega) (by rw [e_sw]; decide) (by decide) ?_
    refine lv_lload_n G0.1 G0.2.1 dX3_joined_196 rfl (lv_at hl 1 rfl) ?_
    refine lv_lconst (v := 0) G0.1 G0.2.1 dX3_joined_197 (by decide) ?_
    refine W.lcmp G0.1 G0.2.1 dX3_joined_198 ?_
    refine lv_topi (fun x_29 ex_29 => ?_)
    have jn_213 : ∀ (v_30 : Int64) (H_j213 : Heap) (locs : List Loc) (ls : Array Slot), py_W E (va_A (va_pl L f) s.heap.size) s L f H_j213 locs → lv_has ls 5 [(0, .int a), (1, .long b), (3, .long q)] → W p l e (headSpec w_X3_joined ({ frames := 0, cells := 0, slots := 0, locals := 0 })).room s m ([.int a, .long b, .long q] : List Value).toArray below meth c H_j213 locs 0 0 (MQ below (py_Ql E L f s.heap.size (fun _ L1 f1 => L = L1 ∧ f = f1)) ([.int a, .long b, .long q] : List Value).toArray s 0 0 (va_A (va_pl L f) s.heap.size)) (F0 m 213 ls [.long v_30]) := by
      intro v_30 H_j213 locs ls hw hl
      exact py_lret G0 hr hlk hw ⟨rfl, rfl⟩ dX3_joined_213
    refine lv_if_ne (tgt := 208) G0.1 G0.2.1 dX3_joined_199 (by decide) (fun c_31 => ?_) (fun c_31 => ?_)
    · skip
      have tc_31 := ti_ne c_31
      refine lv_lconst (v := 1) G0.1 G0.2.1 dX3_joined_208 (by decide) ?_
      refine lv_goto (tgt := 213) G0.1 G0.2.1 dX3_joined_209 (by decide) ?_
      exact jn_213 1 _ _ ls hw (lv_sub hl [0, 1, 2] rfl)
    · skip
      have tc_31 := ti_eq c_31
      refine lv_lload_n G0.1 G0.2.1 dX3_joined_202 rfl (lv_at hl 2 rfl) ?_
      refine lv_lconst (v := 0) G0.1 G0.2.1 dX3_joined_203 (by decide) ?_
      refine W.lcmp G0.1 G0.2.1 dX3_joined_204 ?_
      refine lv_topi (fun x_32 ex_32 => ?_)
      refine lv_if_eq (tgt := 212) G0.1 G0.2.1 dX3_joined_205 (by decide) (fun c_33 => ?_) (fun c_33 => ?_)
      · skip
        have tc_33 := ti_eq c_33
        refine lv_lconst (v := 0) G0.1 G0.2.1 dX3_joined_212 (by decide) ?_
        exact jn_213 0 _ _ ls hw (lv_sub hl [0, 1, 2] rfl)
      · skip
        have tc_33 := ti_ne c_33
        refine lv_lconst (v := 1) G0.1 G0.2.1 dX3_joined_208 (by decide) ?_
        refine lv_goto (tgt := 213) G0.1 G0.2.1 dX3_joined_209 (by decide) ?_
        exact jn_213 1 _ _ ls hw (lv_sub hl [0, 1, 2] rfl)
  · skip
    have te := ti_eq e_sw
    refine lv_tableIn (off := 127) (tgt := 128) G0.1 G0.2.1 dX3_joined_1 (by omega) (by omega) (by rw [e_sw]; decide) (by decide) ?_
    refine lv_lload_n G0.1 G0.2.1 dX3_joined_128 rfl (lv_at hl 2 rfl) ?_
    refine lv_lconst (v := 0) G0.1 G0.2.1 dX3_joined_129 (by decide) ?_
    refine W.lcmp G0.1 G0.2.1 dX3_joined_130 ?_
    refine lv_topi (fun x_34 ex_34 => ?_)
    have jn_141 : ∀ (v_35 : Int64) (H_j141 : Heap) (locs : List Loc) (ls : Array Slot), py_W E (va_A (va_pl L f) s.heap.size) s L f H_j141 locs → lv_has ls 5 [(0, .int a), (1, .long b), (3, .long q)] → W p l e (headSpec w_X3_joined ({ frames := 0, cells := 0, slots := 0, locals := 0 })).room s m ([.int a, .long b, .long q] : List Value).toArray below meth c H_j141 locs 0 0 (MQ below (py_Ql E L f s.heap.size (fun _ L1 f1 => L = L1 ∧ f = f1)) ([.int a, .long b, .long q] : List Value).toArray s 0 0 (va_A (va_pl L f) s.heap.size)) (F0 m 141 ls [.long v_35]) := by
      intro v_35 H_j141 locs ls hw hl
      exact py_lret G0 hr hlk hw ⟨rfl, rfl⟩ dX3_joined_141
    refine lv_if_ne (tgt := 138) G0.1 G0.2.1 dX3_joined_131 (by decide) (fun c_36 => ?_) (fun c_36 => ?_)
    · skip
      have tc_36 := ti_ne c_36
      refine lv_lload_n G0.1 G0.2.1 dX3_joined_138 rfl (lv_at hl 1 rfl) ?_
      refine lv_lload_n G0.1 G0.2.1 dX3_joined_139 rfl (lv_at hl 2 rfl) ?_
      refine lv_ldiv G0.1 G0.2.1 dX3_joined_140 (cmp_ne ex_34 c_36) ?_
      refine lv_topl (fun y_37 ey_37 => ?_)
      exact jn_141 y_37 _ _ ls hw (lv_sub hl [0, 1, 2] rfl)
    · skip
      have tc_36 := ti_eq c_36
      refine lv_lconst (v := 0) G0.1 G0.2.1 dX3_joined_134 (by decide) ?_
      refine lv_goto (tgt := 141) G0.1 G0.2.1 dX3_joined_135 (by decide) ?_
      exact jn_141 0 _ _ ls hw (lv_sub hl [0, 1, 2] rfl)
  · skip
    have te := ti_eq e_sw
    refine lv_tableIn (off := 195) (tgt := 196) G0.1 G0.2.1 dX3_joined_1 (by omega) (by omega) (by rw [e_sw]; decide) (by decide) ?_
    refine lv_lload_n G0.1 G0.2.1 dX3_joined_196 rfl (lv_at hl 1 rfl) ?_
    refine lv_lconst (v := 0) G0.1 G0.2.1 dX3_joined_197 (by decide) ?_
    refine W.lcmp G0.1 G0.2.1 dX3_joined_198 ?_
    refine lv_topi (fun x_38 ex_38 => ?_)
    have jn_213 : ∀ (v_39 : Int64) (H_j213 : Heap) (locs : List Loc) (ls : Array Slot), py_W E (va_A (va_pl L f) s.heap.size) s L f H_j213 locs → lv_has ls 5 [(0, .int a), (1, .long b), (3, .long q)] → W p l e (headSpec w_X3_joined ({ frames := 0, cells := 0, slots := 0, locals := 0 })).room s m ([.int a, .long b, .long q] : List Value).toArray below meth c H_j213 locs 0 0 (MQ below (py_Ql E L f s.heap.size (fun _ L1 f1 => L = L1 ∧ f = f1)) ([.int a, .long b, .long q] : List Value).toArray s 0 0 (va_A (va_pl L f) s.heap.size)) (F0 m 213 ls [.long v_39]) := by
      intro v_39 H_j213 locs ls hw hl
      exact py_lret G0 hr hlk hw ⟨rfl, rfl⟩ dX3_joined_213
    refine lv_if_ne (tgt := 208) G0.1 G0.2.1 dX3_joined_199 (by decide) (fun c_40 => ?_) (fun c_40 => ?_)
    · skip
      have tc_40 := ti_ne c_40
      refine lv_lconst (v := 1) G0.1 G0.2.1 dX3_joined_208 (by decide) ?_
      refine lv_goto (tgt := 213) G0.1 G0.2.1 dX3_joined_209 (by decide) ?_
      exact jn_213 1 _ _ ls hw (lv_sub hl [0, 1, 2] rfl)
    · skip
      have tc_40 := ti_eq c_40
      refine lv_lload_n G0.1 G0.2.1 dX3_joined_202 rfl (lv_at hl 2 rfl) ?_
      refine lv_lconst (v := 0) G0.1 G0.2.1 dX3_joined_203 (by decide) ?_
      refine W.lcmp G0.1 G0.2.1 dX3_joined_204 ?_
      refine lv_topi (fun x_41 ex_41 => ?_)
      refine lv_if_eq (tgt := 212) G0.1 G0.2.1 dX3_joined_205 (by decide) (fun c_42 => ?_) (fun c_42 => ?_)
      · skip
        have tc_42 := ti_eq c_42
        refine lv_lconst (v := 0) G0.1 G0.2.1 dX3_joined_212 (by decide) ?_
        exact jn_213 0 _ _ ls hw (lv_sub hl [0, 1, 2] rfl)
      · skip
        have tc_42 := ti_ne c_42
        refine lv_lconst (v := 1) G0.1 G0.2.1 dX3_joined_208 (by decide) ?_
        refine lv_goto (tgt := 213) G0.1 G0.2.1 dX3_joined_209 (by decide) ?_
        exact jn_213 1 _ _ ls hw (lv_sub hl [0, 1, 2] rfl)
  · skip
    have te := ti_eq e_sw
    refine lv_tableIn (off := 195) (tgt := 196) G0.1 G0.2.1 dX3_joined_1 (by omega) (by omega) (by rw [e_sw]; decide) (by decide) ?_
    refine lv_lload_n G0.1 G0.2.1 dX3_joined_196 rfl (lv_at hl 1 rfl) ?_
    refine lv_lconst (v := 0) G0.1 G0.2.1 dX3_joined_197 (by decide) ?_
    refine W.lcmp G0.1 G0.2.1 dX3_joined_198 ?_
    refine lv_topi (fun x_43 ex_43 => ?_)
    have jn_213 : ∀ (v_44 : Int64) (H_j213 : Heap) (locs : List Loc) (ls : Array Slot), py_W E (va_A (va_pl L f) s.heap.size) s L f H_j213 locs → lv_has ls 5 [(0, .int a), (1, .long b), (3, .long q)] → W p l e (headSpec w_X3_joined ({ frames := 0, cells := 0, slots := 0, locals := 0 })).room s m ([.int a, .long b, .long q] : List Value).toArray below meth c H_j213 locs 0 0 (MQ below (py_Ql E L f s.heap.size (fun _ L1 f1 => L = L1 ∧ f = f1)) ([.int a, .long b, .long q] : List Value).toArray s 0 0 (va_A (va_pl L f) s.heap.size)) (F0 m 213 ls [.long v_44]) := by
      intro v_44 H_j213 locs ls hw hl
      exact py_lret G0 hr hlk hw ⟨rfl, rfl⟩ dX3_joined_213
    refine lv_if_ne (tgt := 208) G0.1 G0.2.1 dX3_joined_199 (by decide) (fun c_45 => ?_) (fun c_45 => ?_)
    · skip
      have tc_45 := ti_ne c_45
      refine lv_lconst (v := 1) G0.1 G0.2.1 dX3_joined_208 (by decide) ?_
      refine lv_goto (tgt := 213) G0.1 G0.2.1 dX3_joined_209 (by decide) ?_
      exact jn_213 1 _ _ ls hw (lv_sub hl [0, 1, 2] rfl)
    · skip
      have tc_45 := ti_eq c_45
      refine lv_lload_n G0.1 G0.2.1 dX3_joined_202 rfl (lv_at hl 2 rfl) ?_
      refine lv_lconst (v := 0) G0.1 G0.2.1 dX3_joined_203 (by decide) ?_
      refine W.lcmp G0.1 G0.2.1 dX3_joined_204 ?_
      refine lv_topi (fun x_46 ex_46 => ?_)
      refine lv_if_eq (tgt := 212) G0.1 G0.2.1 dX3_joined_205 (by decide) (fun c_47 => ?_) (fun c_47 => ?_)
      · skip
        have tc_47 := ti_eq c_47
        refine lv_lconst (v := 0) G0.1 G0.2.1 dX3_joined_212 (by decide) ?_
        exact jn_213 0 _ _ ls hw (lv_sub hl [0, 1, 2] rfl)
      · skip
        have tc_47 := ti_ne c_47
        refine lv_lconst (v := 1) G0.1 G0.2.1 dX3_joined_208 (by decide) ?_
        refine lv_goto (tgt := 213) G0.1 G0.2.1 dX3_joined_209 (by decide) ?_
        exact jn_213 1 _ _ ls hw (lv_sub hl [0, 1, 2] rfl)
  · skip
    have te := ti_eq e_sw
    refine lv_tableIn (off := 195) (tgt := 196) G0.1 G0.2.1 dX3_joined_1 (by omega) (by omega) (by rw [e_sw]; decide) (by decide) ?_
    refine lv_lload_n G0.1 G0.2.1 dX3_joined_196 rfl (lv_at hl 1 rfl) ?_
    refine lv_lconst (v := 0) G0.1 G0.2.1 dX3_joined_197 (by decide) ?_
    refine W.lcmp G0.1 G0.2.1 dX3_joined_198 ?_
    refine lv_topi (fun x_48 ex_48 => ?_)
    have jn_213 : ∀ (v_49 : Int64) (H_j213 : Heap) (locs : List Loc) (ls : Array Slot), py_W E (va_A (va_pl L f) s.heap.size) s L f H_j213 locs → lv_has ls 5 [(0, .int a), (1, .long b), (3, .long q)] → W p l e (headSpec w_X3_joined ({ frames := 0, cells := 0, slots := 0, locals := 0 })).room s m ([.int a, .long b, .long q] : List Value).toArray below meth c H_j213 locs 0 0 (MQ below (py_Ql E L f s.heap.size (fun _ L1 f1 => L = L1 ∧ f = f1)) ([.int a, .long b, .long q] : List Value).toArray s 0 0 (va_A (va_pl L f) s.heap.size)) (F0 m 213 ls [.long v_49]) := by
      intro v_49 H_j213 locs ls hw hl
      exact py_lret G0 hr hlk hw ⟨rfl, rfl⟩ dX3_joined_213
    refine lv_if_ne (tgt := 208) G0.1 G0.2.1 dX3_joined_199 (by decide) (fun c_50 => ?_) (fun c_50 => ?_)
    · skip
      have tc_50 := ti_ne c_50
      refine lv_lconst (v := 1) G0.1 G0.2.1 dX3_joined_208 (by decide) ?_
      refine lv_goto (tgt := 213) G0.1 G0.2.1 dX3_joined_209 (by decide) ?_
      exact jn_213 1 _ _ ls hw (lv_sub hl [0, 1, 2] rfl)
    · skip
      have tc_50 := ti_eq c_50
      refine lv_lload_n G0.1 G0.2.1 dX3_joined_202 rfl (lv_at hl 2 rfl) ?_
      refine lv_lconst (v := 0) G0.1 G0.2.1 dX3_joined_203 (by decide) ?_
      refine W.lcmp G0.1 G0.2.1 dX3_joined_204 ?_
      refine lv_topi (fun x_51 ex_51 => ?_)
      refine lv_if_eq (tgt := 212) G0.1 G0.2.1 dX3_joined_205 (by decide) (fun c_52 => ?_) (fun c_52 => ?_)
      · skip
        have tc_52 := ti_eq c_52
        refine lv_lconst (v := 0) G0.1 G0.2.1 dX3_joined_212 (by decide) ?_
        exact jn_213 0 _ _ ls hw (lv_sub hl [0, 1, 2] rfl)
      · skip
        have tc_52 := ti_ne c_52
        refine lv_lconst (v := 1) G0.1 G0.2.1 dX3_joined_208 (by decide) ?_
        refine lv_goto (tgt := 213) G0.1 G0.2.1 dX3_joined_209 (by decide) ?_
        exact jn_213 1 _ _ ls hw (lv_sub hl [0, 1, 2] rfl)
  · skip
    have te := ti_eq e_sw
    refine lv_tableIn (off := 195) (tgt := 196) G0.1 G0.2.1 dX3_joined_1 (by omega) (by omega) (by rw [e_sw]; decide) (by decide) ?_
    refine lv_lload_n G0.1 G0.2.1 dX3_joined_196 rfl (lv_at hl 1 rfl) ?_
    refine lv_lconst (v := 0) G0.1 G0.2.1 dX3_joined_197 (by decide) ?_
    refine W.lcmp G0.1 G0.2.1 dX3_joined_198 ?_
    refine lv_topi (fun x_53 ex_53 => ?_)
    have jn_213 : ∀ (v_54 : Int64) (H_j213 : Heap) (locs : List Loc) (ls : Array Slot), py_W E (va_A (va_pl L f) s.heap.size) s L f H_j213 locs → lv_has ls 5 [(0, .int a), (1, .long b), (3, .long q)] → W p l e (headSpec w_X3_joined ({ frames := 0, cells := 0, slots := 0, locals := 0 })).room s m ([.int a, .long b, .long q] : List Value).toArray below meth c H_j213 locs 0 0 (MQ below (py_Ql E L f s.heap.size (fun _ L1 f1 => L = L1 ∧ f = f1)) ([.int a, .long b, .long q] : List Value).toArray s 0 0 (va_A (va_pl L f) s.heap.size)) (F0 m 213 ls [.long v_54]) := by
      intro v_54 H_j213 locs ls hw hl
      exact py_lret G0 hr hlk hw ⟨rfl, rfl⟩ dX3_joined_213
    refine lv_if_ne (tgt := 208) G0.1 G0.2.1 dX3_joined_199 (by decide) (fun c_55 => ?_) (fun c_55 => ?_)
    · skip
      have tc_55 := ti_ne c_55
      refine lv_lconst (v := 1) G0.1 G0.2.1 dX3_joined_208 (by decide) ?_
      refine lv_goto (tgt := 213) G0.1 G0.2.1 dX3_joined_209 (by decide) ?_
      exact jn_213 1 _ _ ls hw (lv_sub hl [0, 1, 2] rfl)
    · skip
      have tc_55 := ti_eq c_55
      refine lv_lload_n G0.1 G0.2.1 dX3_joined_202 rfl (lv_at hl 2 rfl) ?_
      refine lv_lconst (v := 0) G0.1 G0.2.1 dX3_joined_203 (by decide) ?_
      refine W.lcmp G0.1 G0.2.1 dX3_joined_204 ?_
      refine lv_topi (fun x_56 ex_56 => ?_)
      refine lv_if_eq (tgt := 212) G0.1 G0.2.1 dX3_joined_205 (by decide) (fun c_57 => ?_) (fun c_57 => ?_)
      · skip
        have tc_57 := ti_eq c_57
        refine lv_lconst (v := 0) G0.1 G0.2.1 dX3_joined_212 (by decide) ?_
        exact jn_213 0 _ _ ls hw (lv_sub hl [0, 1, 2] rfl)
      · skip
        have tc_57 := ti_ne c_57
        refine lv_lconst (v := 1) G0.1 G0.2.1 dX3_joined_208 (by decide) ?_
        refine lv_goto (tgt := 213) G0.1 G0.2.1 dX3_joined_209 (by decide) ?_
        exact jn_213 1 _ _ ls hw (lv_sub hl [0, 1, 2] rfl)
  · skip
    have te := ti_eq e_sw
    refine lv_tableIn (off := 195) (tgt := 196) G0.1 G0.2.1 dX3_joined_1 (by omega) (by omega) (by rw [e_sw]; decide) (by decide) ?_
    refine lv_lload_n G0.1 G0.2.1 dX3_joined_196 rfl (lv_at hl 1 rfl) ?_
    refine lv_lconst (v := 0) G0.1 G0.2.1 dX3_joined_197 (by decide) ?_
    refine W.lcmp G0.1 G0.2.1 dX3_joined_198 ?_
    refine lv_topi (fun x_58 ex_58 => ?_)
    have jn_213 : ∀ (v_59 : Int64) (H_j213 : Heap) (locs : List Loc) (ls : Array Slot), py_W E (va_A (va_pl L f) s.heap.size) s L f H_j213 locs → lv_has ls 5 [(0, .int a), (1, .long b), (3, .long q)] → W p l e (headSpec w_X3_joined ({ frames := 0, cells := 0, slots := 0, locals := 0 })).room s m ([.int a, .long b, .long q] : List Value).toArray below meth c H_j213 locs 0 0 (MQ below (py_Ql E L f s.heap.size (fun _ L1 f1 => L = L1 ∧ f = f1)) ([.int a, .long b, .long q] : List Value).toArray s 0 0 (va_A (va_pl L f) s.heap.size)) (F0 m 213 ls [.long v_59]) := by
      intro v_59 H_j213 locs ls hw hl
      exact py_lret G0 hr hlk hw ⟨rfl, rfl⟩ dX3_joined_213
    refine lv_if_ne (tgt := 208) G0.1 G0.2.1 dX3_joined_199 (by decide) (fun c_60 => ?_) (fun c_60 => ?_)
    · skip
      have tc_60 := ti_ne c_60
      refine lv_lconst (v := 1) G0.1 G0.2.1 dX3_joined_208 (by decide) ?_
      refine lv_goto (tgt := 213) G0.1 G0.2.1 dX3_joined_209 (by decide) ?_
      exact jn_213 1 _ _ ls hw (lv_sub hl [0, 1, 2] rfl)
    · skip
      have tc_60 := ti_eq c_60
      refine lv_lload_n G0.1 G0.2.1 dX3_joined_202 rfl (lv_at hl 2 rfl) ?_
      refine lv_lconst (v := 0) G0.1 G0.2.1 dX3_joined_203 (by decide) ?_
      refine W.lcmp G0.1 G0.2.1 dX3_joined_204 ?_
      refine lv_topi (fun x_61 ex_61 => ?_)
      refine lv_if_eq (tgt := 212) G0.1 G0.2.1 dX3_joined_205 (by decide) (fun c_62 => ?_) (fun c_62 => ?_)
      · skip
        have tc_62 := ti_eq c_62
        refine lv_lconst (v := 0) G0.1 G0.2.1 dX3_joined_212 (by decide) ?_
        exact jn_213 0 _ _ ls hw (lv_sub hl [0, 1, 2] rfl)
      · skip
        have tc_62 := ti_ne c_62
        refine lv_lconst (v := 1) G0.1 G0.2.1 dX3_joined_208 (by decide) ?_
        refine lv_goto (tgt := 213) G0.1 G0.2.1 dX3_joined_209 (by decide) ?_
        exact jn_213 1 _ _ ls hw (lv_sub hl [0, 1, 2] rfl)
  · skip
    have te := ti_eq e_sw
    refine lv_tableIn (off := 195) (tgt := 196) G0.1 G0.2.1 dX3_joined_1 (by omega) (by omega) (by rw [e_sw]; decide) (by decide) ?_
    refine lv_lload_n G0.1 G0.2.1 dX3_joined_196 rfl (lv_at hl 1 rfl) ?_
    refine lv_lconst (v := 0) G0.1 G0.2.1 dX3_joined_197 (by decide) ?_
    refine W.lcmp G0.1 G0.2.1 dX3_joined_198 ?_
    refine lv_topi (fun x_63 ex_63 => ?_)
    have jn_213 : ∀ (v_64 : Int64) (H_j213 : Heap) (locs : List Loc) (ls : Array Slot), py_W E (va_A (va_pl L f) s.heap.size) s L f H_j213 locs → lv_has ls 5 [(0, .int a), (1, .long b), (3, .long q)] → W p l e (headSpec w_X3_joined ({ frames := 0, cells := 0, slots := 0, locals := 0 })).room s m ([.int a, .long b, .long q] : List Value).toArray below meth c H_j213 locs 0 0 (MQ below (py_Ql E L f s.heap.size (fun _ L1 f1 => L = L1 ∧ f = f1)) ([.int a, .long b, .long q] : List Value).toArray s 0 0 (va_A (va_pl L f) s.heap.size)) (F0 m 213 ls [.long v_64]) := by
      intro v_64 H_j213 locs ls hw hl
      exact py_lret G0 hr hlk hw ⟨rfl, rfl⟩ dX3_joined_213
    refine lv_if_ne (tgt := 208) G0.1 G0.2.1 dX3_joined_199 (by decide) (fun c_65 => ?_) (fun c_65 => ?_)
    · skip
      have tc_65 := ti_ne c_65
      refine lv_lconst (v := 1) G0.1 G0.2.1 dX3_joined_208 (by decide) ?_
      refine lv_goto (tgt := 213) G0.1 G0.2.1 dX3_joined_209 (by decide) ?_
      exact jn_213 1 _ _ ls hw (lv_sub hl [0, 1, 2] rfl)
    · skip
      have tc_65 := ti_eq c_65
      refine lv_lload_n G0.1 G0.2.1 dX3_joined_202 rfl (lv_at hl 2 rfl) ?_
      refine lv_lconst (v := 0) G0.1 G0.2.1 dX3_joined_203 (by decide) ?_
      refine W.lcmp G0.1 G0.2.1 dX3_joined_204 ?_
      refine lv_topi (fun x_66 ex_66 => ?_)
      refine lv_if_eq (tgt := 212) G0.1 G0.2.1 dX3_joined_205 (by decide) (fun c_67 => ?_) (fun c_67 => ?_)
      · skip
        have tc_67 := ti_eq c_67
        refine lv_lconst (v := 0) G0.1 G0.2.1 dX3_joined_212 (by decide) ?_
        exact jn_213 0 _ _ ls hw (lv_sub hl [0, 1, 2] rfl)
      · skip
        have tc_67 := ti_ne c_67
        refine lv_lconst (v := 1) G0.1 G0.2.1 dX3_joined_208 (by decide) ?_
        refine lv_goto (tgt := 213) G0.1 G0.2.1 dX3_joined_209 (by decide) ?_
        exact jn_213 1 _ _ ls hw (lv_sub hl [0, 1, 2] rfl)
  · skip
    have te := ti_eq e_sw
    refine lv_tableIn (off := 195) (tgt := 196) G0.1 G0.2.1 dX3_joined_1 (by omega) (by omega) (by rw [e_sw]; decide) (by decide) ?_
    refine lv_lload_n G0.1 G0.2.1 dX3_joined_196 rfl (lv_at hl 1 rfl) ?_
    refine lv_lconst (v := 0) G0.1 G0.2.1 dX3_joined_197 (by decide) ?_
    refine W.lcmp G0.1 G0.2.1 dX3_joined_198 ?_
    refine lv_topi (fun x_68 ex_68 => ?_)
    have jn_213 : ∀ (v_69 : Int64) (H_j213 : Heap) (locs : List Loc) (ls : Array Slot), py_W E (va_A (va_pl L f) s.heap.size) s L f H_j213 locs → lv_has ls 5 [(0, .int a), (1, .long b), (3, .long q)] → W p l e (headSpec w_X3_joined ({ frames := 0, cells := 0, slots := 0, locals := 0 })).room s m ([.int a, .long b, .long q] : List Value).toArray below meth c H_j213 locs 0 0 (MQ below (py_Ql E L f s.heap.size (fun _ L1 f1 => L = L1 ∧ f = f1)) ([.int a, .long b, .long q] : List Value).toArray s 0 0 (va_A (va_pl L f) s.heap.size)) (F0 m 213 ls [.long v_69]) := by
      intro v_69 H_j213 locs ls hw hl
      exact py_lret G0 hr hlk hw ⟨rfl, rfl⟩ dX3_joined_213
    refine lv_if_ne (tgt := 208) G0.1 G0.2.1 dX3_joined_199 (by decide) (fun c_70 => ?_) (fun c_70 => ?_)
    · skip
      have tc_70 := ti_ne c_70
      refine lv_lconst (v := 1) G0.1 G0.2.1 dX3_joined_208 (by decide) ?_
      refine lv_goto (tgt := 213) G0.1 G0.2.1 dX3_joined_209 (by decide) ?_
      exact jn_213 1 _ _ ls hw (lv_sub hl [0, 1, 2] rfl)
    · skip
      have tc_70 := ti_eq c_70
      refine lv_lload_n G0.1 G0.2.1 dX3_joined_202 rfl (lv_at hl 2 rfl) ?_
      refine lv_lconst (v := 0) G0.1 G0.2.1 dX3_joined_203 (by decide) ?_
      refine W.lcmp G0.1 G0.2.1 dX3_joined_204 ?_
      refine lv_topi (fun x_71 ex_71 => ?_)
      refine lv_if_eq (tgt := 212) G0.1 G0.2.1 dX3_joined_205 (by decide) (fun c_72 => ?_) (fun c_72 => ?_)
      · skip
        have tc_72 := ti_eq c_72
        refine lv_lconst (v := 0) G0.1 G0.2.1 dX3_joined_212 (by decide) ?_
        exact jn_213 0 _ _ ls hw (lv_sub hl [0, 1, 2] rfl)
      · skip
        have tc_72 := ti_ne c_72
        refine lv_lconst (v := 1) G0.1 G0.2.1 dX3_joined_208 (by decide) ?_
        refine lv_goto (tgt := 213) G0.1 G0.2.1 dX3_joined_209 (by decide) ?_
        exact jn_213 1 _ _ ls hw (lv_sub hl [0, 1, 2] rfl)
  · skip
    have te := ti_eq e_sw
    refine lv_tableIn (off := 195) (tgt := 196) G0.1 G0.2.1 dX3_joined_1 (by omega) (by omega) (by rw [e_sw]; decide) (by decide) ?_
    refine lv_lload_n G0.1 G0.2.1 dX3_joined_196 rfl (lv_at hl 1 rfl) ?_
    refine lv_lconst (v := 0) G0.1 G0.2.1 dX3_joined_197 (by decide) ?_
    refine W.lcmp G0.1 G0.2.1 dX3_joined_198 ?_
    refine lv_topi (fun x_73 ex_73 => ?_)
    have jn_213 : ∀ (v_74 : Int64) (H_j213 : Heap) (locs : List Loc) (ls : Array Slot), py_W E (va_A (va_pl L f) s.heap.size) s L f H_j213 locs → lv_has ls 5 [(0, .int a), (1, .long b), (3, .long q)] → W p l e (headSpec w_X3_joined ({ frames := 0, cells := 0, slots := 0, locals := 0 })).room s m ([.int a, .long b, .long q] : List Value).toArray below meth c H_j213 locs 0 0 (MQ below (py_Ql E L f s.heap.size (fun _ L1 f1 => L = L1 ∧ f = f1)) ([.int a, .long b, .long q] : List Value).toArray s 0 0 (va_A (va_pl L f) s.heap.size)) (F0 m 213 ls [.long v_74]) := by
      intro v_74 H_j213 locs ls hw hl
      exact py_lret G0 hr hlk hw ⟨rfl, rfl⟩ dX3_joined_213
    refine lv_if_ne (tgt := 208) G0.1 G0.2.1 dX3_joined_199 (by decide) (fun c_75 => ?_) (fun c_75 => ?_)
    · skip
      have tc_75 := ti_ne c_75
      refine lv_lconst (v := 1) G0.1 G0.2.1 dX3_joined_208 (by decide) ?_
      refine lv_goto (tgt := 213) G0.1 G0.2.1 dX3_joined_209 (by decide) ?_
      exact jn_213 1 _ _ ls hw (lv_sub hl [0, 1, 2] rfl)
    · skip
      have tc_75 := ti_eq c_75
      refine lv_lload_n G0.1 G0.2.1 dX3_joined_202 rfl (lv_at hl 2 rfl) ?_
      refine lv_lconst (v := 0) G0.1 G0.2.1 dX3_joined_203 (by decide) ?_
      refine W.lcmp G0.1 G0.2.1 dX3_joined_204 ?_
      refine lv_topi (fun x_76 ex_76 => ?_)
      refine lv_if_eq (tgt := 212) G0.1 G0.2.1 dX3_joined_205 (by decide) (fun c_77 => ?_) (fun c_77 => ?_)
      · skip
        have tc_77 := ti_eq c_77
        refine lv_lconst (v := 0) G0.1 G0.2.1 dX3_joined_212 (by decide) ?_
        exact jn_213 0 _ _ ls hw (lv_sub hl [0, 1, 2] rfl)
      · skip
        have tc_77 := ti_ne c_77
        refine lv_lconst (v := 1) G0.1 G0.2.1 dX3_joined_208 (by decide) ?_
        refine lv_goto (tgt := 213) G0.1 G0.2.1 dX3_joined_209 (by decide) ?_
        exact jn_213 1 _ _ ls hw (lv_sub hl [0, 1, 2] rfl)
  · skip
    have te := ti_eq e_sw
    refine lv_tableIn (off := 195) (tgt := 196) G0.1 G0.2.1 dX3_joined_1 (by omega) (by omega) (by rw [e_sw]; decide) (by decide) ?_
    refine lv_lload_n G0.1 G0.2.1 dX3_joined_196 rfl (lv_at hl 1 rfl) ?_
    refine lv_lconst (v := 0) G0.1 G0.2.1 dX3_joined_197 (by decide) ?_
    refine W.lcmp G0.1 G0.2.1 dX3_joined_198 ?_
    refine lv_topi (fun x_78 ex_78 => ?_)
    have jn_213 : ∀ (v_79 : Int64) (H_j213 : Heap) (locs : List Loc) (ls : Array Slot), py_W E (va_A (va_pl L f) s.heap.size) s L f H_j213 locs → lv_has ls 5 [(0, .int a), (1, .long b), (3, .long q)] → W p l e (headSpec w_X3_joined ({ frames := 0, cells := 0, slots := 0, locals := 0 })).room s m ([.int a, .long b, .long q] : List Value).toArray below meth c H_j213 locs 0 0 (MQ below (py_Ql E L f s.heap.size (fun _ L1 f1 => L = L1 ∧ f = f1)) ([.int a, .long b, .long q] : List Value).toArray s 0 0 (va_A (va_pl L f) s.heap.size)) (F0 m 213 ls [.long v_79]) := by
      intro v_79 H_j213 locs ls hw hl
      exact py_lret G0 hr hlk hw ⟨rfl, rfl⟩ dX3_joined_213
    refine lv_if_ne (tgt := 208) G0.1 G0.2.1 dX3_joined_199 (by decide) (fun c_80 => ?_) (fun c_80 => ?_)
    · skip
      have tc_80 := ti_ne c_80
      refine lv_lconst (v := 1) G0.1 G0.2.1 dX3_joined_208 (by decide) ?_
      refine lv_goto (tgt := 213) G0.1 G0.2.1 dX3_joined_209 (by decide) ?_
      exact jn_213 1 _ _ ls hw (lv_sub hl [0, 1, 2] rfl)
    · skip
      have tc_80 := ti_eq c_80
      refine lv_lload_n G0.1 G0.2.1 dX3_joined_202 rfl (lv_at hl 2 rfl) ?_
      refine lv_lconst (v := 0) G0.1 G0.2.1 dX3_joined_203 (by decide) ?_
      refine W.lcmp G0.1 G0.2.1 dX3_joined_204 ?_
      refine lv_topi (fun x_81 ex_81 => ?_)
      refine lv_if_eq (tgt := 212) G0.1 G0.2.1 dX3_joined_205 (by decide) (fun c_82 => ?_) (fun c_82 => ?_)
      · skip
        have tc_82 := ti_eq c_82
        refine lv_lconst (v := 0) G0.1 G0.2.1 dX3_joined_212 (by decide) ?_
        exact jn_213 0 _ _ ls hw (lv_sub hl [0, 1, 2] rfl)
      · skip
        have tc_82 := ti_ne c_82
        refine lv_lconst (v := 1) G0.1 G0.2.1 dX3_joined_208 (by decide) ?_
        refine lv_goto (tgt := 213) G0.1 G0.2.1 dX3_joined_209 (by decide) ?_
        exact jn_213 1 _ _ ls hw (lv_sub hl [0, 1, 2] rfl)
  · skip
    have te := ti_eq e_sw
    refine lv_tableIn (off := 195) (tgt := 196) G0.1 G0.2.1 dX3_joined_1 (by omega) (by omega) (by rw [e_sw]; decide) (by decide) ?_
    refine lv_lload_n G0.1 G0.2.1 dX3_joined_196 rfl (lv_at hl 1 rfl) ?_
    refine lv_lconst (v := 0) G0.1 G0.2.1 dX3_joined_197 (by decide) ?_
    refine W.lcmp G0.1 G0.2.1 dX3_joined_198 ?_
    refine lv_topi (fun x_83 ex_83 => ?_)
    have jn_213 : ∀ (v_84 : Int64) (H_j213 : Heap) (locs : List Loc) (ls : Array Slot), py_W E (va_A (va_pl L f) s.heap.size) s L f H_j213 locs → lv_has ls 5 [(0, .int a), (1, .long b), (3, .long q)] → W p l e (headSpec w_X3_joined ({ frames := 0, cells := 0, slots := 0, locals := 0 })).room s m ([.int a, .long b, .long q] : List Value).toArray below meth c H_j213 locs 0 0 (MQ below (py_Ql E L f s.heap.size (fun _ L1 f1 => L = L1 ∧ f = f1)) ([.int a, .long b, .long q] : List Value).toArray s 0 0 (va_A (va_pl L f) s.heap.size)) (F0 m 213 ls [.long v_84]) := by
      intro v_84 H_j213 locs ls hw hl
      exact py_lret G0 hr hlk hw ⟨rfl, rfl⟩ dX3_joined_213
    refine lv_if_ne (tgt := 208) G0.1 G0.2.1 dX3_joined_199 (by decide) (fun c_85 => ?_) (fun c_85 => ?_)
    · skip
      have tc_85 := ti_ne c_85
      refine lv_lconst (v := 1) G0.1 G0.2.1 dX3_joined_208 (by decide) ?_
      refine lv_goto (tgt := 213) G0.1 G0.2.1 dX3_joined_209 (by decide) ?_
      exact jn_213 1 _ _ ls hw (lv_sub hl [0, 1, 2] rfl)
    · skip
      have tc_85 := ti_eq c_85
      refine lv_lload_n G0.1 G0.2.1 dX3_joined_202 rfl (lv_at hl 2 rfl) ?_
      refine lv_lconst (v := 0) G0.1 G0.2.1 dX3_joined_203 (by decide) ?_
      refine W.lcmp G0.1 G0.2.1 dX3_joined_204 ?_
      refine lv_topi (fun x_86 ex_86 => ?_)
      refine lv_if_eq (tgt := 212) G0.1 G0.2.1 dX3_joined_205 (by decide) (fun c_87 => ?_) (fun c_87 => ?_)
      · skip
        have tc_87 := ti_eq c_87
        refine lv_lconst (v := 0) G0.1 G0.2.1 dX3_joined_212 (by decide) ?_
        exact jn_213 0 _ _ ls hw (lv_sub hl [0, 1, 2] rfl)
      · skip
        have tc_87 := ti_ne c_87
        refine lv_lconst (v := 1) G0.1 G0.2.1 dX3_joined_208 (by decide) ?_
        refine lv_goto (tgt := 213) G0.1 G0.2.1 dX3_joined_209 (by decide) ?_
        exact jn_213 1 _ _ ls hw (lv_sub hl [0, 1, 2] rfl)
  · skip
    have te := ti_eq e_sw
    refine lv_tableIn (off := 195) (tgt := 196) G0.1 G0.2.1 dX3_joined_1 (by omega) (by omega) (by rw [e_sw]; decide) (by decide) ?_
    refine lv_lload_n G0.1 G0.2.1 dX3_joined_196 rfl (lv_at hl 1 rfl) ?_
    refine lv_lconst (v := 0) G0.1 G0.2.1 dX3_joined_197 (by decide) ?_
    refine W.lcmp G0.1 G0.2.1 dX3_joined_198 ?_
    refine lv_topi (fun x_88 ex_88 => ?_)
    have jn_213 : ∀ (v_89 : Int64) (H_j213 : Heap) (locs : List Loc) (ls : Array Slot), py_W E (va_A (va_pl L f) s.heap.size) s L f H_j213 locs → lv_has ls 5 [(0, .int a), (1, .long b), (3, .long q)] → W p l e (headSpec w_X3_joined ({ frames := 0, cells := 0, slots := 0, locals := 0 })).room s m ([.int a, .long b, .long q] : List Value).toArray below meth c H_j213 locs 0 0 (MQ below (py_Ql E L f s.heap.size (fun _ L1 f1 => L = L1 ∧ f = f1)) ([.int a, .long b, .long q] : List Value).toArray s 0 0 (va_A (va_pl L f) s.heap.size)) (F0 m 213 ls [.long v_89]) := by
      intro v_89 H_j213 locs ls hw hl
      exact py_lret G0 hr hlk hw ⟨rfl, rfl⟩ dX3_joined_213
    refine lv_if_ne (tgt := 208) G0.1 G0.2.1 dX3_joined_199 (by decide) (fun c_90 => ?_) (fun c_90 => ?_)
    · skip
      have tc_90 := ti_ne c_90
      refine lv_lconst (v := 1) G0.1 G0.2.1 dX3_joined_208 (by decide) ?_
      refine lv_goto (tgt := 213) G0.1 G0.2.1 dX3_joined_209 (by decide) ?_
      exact jn_213 1 _ _ ls hw (lv_sub hl [0, 1, 2] rfl)
    · skip
      have tc_90 := ti_eq c_90
      refine lv_lload_n G0.1 G0.2.1 dX3_joined_202 rfl (lv_at hl 2 rfl) ?_
      refine lv_lconst (v := 0) G0.1 G0.2.1 dX3_joined_203 (by decide) ?_
      refine W.lcmp G0.1 G0.2.1 dX3_joined_204 ?_
      refine lv_topi (fun x_91 ex_91 => ?_)
      refine lv_if_eq (tgt := 212) G0.1 G0.2.1 dX3_joined_205 (by decide) (fun c_92 => ?_) (fun c_92 => ?_)
      · skip
        have tc_92 := ti_eq c_92
        refine lv_lconst (v := 0) G0.1 G0.2.1 dX3_joined_212 (by decide) ?_
        exact jn_213 0 _ _ ls hw (lv_sub hl [0, 1, 2] rfl)
      · skip
        have tc_92 := ti_ne c_92
        refine lv_lconst (v := 1) G0.1 G0.2.1 dX3_joined_208 (by decide) ?_
        refine lv_goto (tgt := 213) G0.1 G0.2.1 dX3_joined_209 (by decide) ?_
        exact jn_213 1 _ _ ls hw (lv_sub hl [0, 1, 2] rfl)
  · skip
    have te := ti_eq e_sw
    refine lv_tableIn (off := 195) (tgt := 196) G0.1 G0.2.1 dX3_joined_1 (by omega) (by omega) (by rw [e_sw]; decide) (by decide) ?_
    refine lv_lload_n G0.1 G0.2.1 dX3_joined_196 rfl (lv_at hl 1 rfl) ?_
    refine lv_lconst (v := 0) G0.1 G0.2.1 dX3_joined_197 (by decide) ?_
    refine W.lcmp G0.1 G0.2.1 dX3_joined_198 ?_
    refine lv_topi (fun x_93 ex_93 => ?_)
    have jn_213 : ∀ (v_94 : Int64) (H_j213 : Heap) (locs : List Loc) (ls : Array Slot), py_W E (va_A (va_pl L f) s.heap.size) s L f H_j213 locs → lv_has ls 5 [(0, .int a), (1, .long b), (3, .long q)] → W p l e (headSpec w_X3_joined ({ frames := 0, cells := 0, slots := 0, locals := 0 })).room s m ([.int a, .long b, .long q] : List Value).toArray below meth c H_j213 locs 0 0 (MQ below (py_Ql E L f s.heap.size (fun _ L1 f1 => L = L1 ∧ f = f1)) ([.int a, .long b, .long q] : List Value).toArray s 0 0 (va_A (va_pl L f) s.heap.size)) (F0 m 213 ls [.long v_94]) := by
      intro v_94 H_j213 locs ls hw hl
      exact py_lret G0 hr hlk hw ⟨rfl, rfl⟩ dX3_joined_213
    refine lv_if_ne (tgt := 208) G0.1 G0.2.1 dX3_joined_199 (by decide) (fun c_95 => ?_) (fun c_95 => ?_)
    · skip
      have tc_95 := ti_ne c_95
      refine lv_lconst (v := 1) G0.1 G0.2.1 dX3_joined_208 (by decide) ?_
      refine lv_goto (tgt := 213) G0.1 G0.2.1 dX3_joined_209 (by decide) ?_
      exact jn_213 1 _ _ ls hw (lv_sub hl [0, 1, 2] rfl)
    · skip
      have tc_95 := ti_eq c_95
      refine lv_lload_n G0.1 G0.2.1 dX3_joined_202 rfl (lv_at hl 2 rfl) ?_
      refine lv_lconst (v := 0) G0.1 G0.2.1 dX3_joined_203 (by decide) ?_
      refine W.lcmp G0.1 G0.2.1 dX3_joined_204 ?_
      refine lv_topi (fun x_96 ex_96 => ?_)
      refine lv_if_eq (tgt := 212) G0.1 G0.2.1 dX3_joined_205 (by decide) (fun c_97 => ?_) (fun c_97 => ?_)
      · skip
        have tc_97 := ti_eq c_97
        refine lv_lconst (v := 0) G0.1 G0.2.1 dX3_joined_212 (by decide) ?_
        exact jn_213 0 _ _ ls hw (lv_sub hl [0, 1, 2] rfl)
      · skip
        have tc_97 := ti_ne c_97
        refine lv_lconst (v := 1) G0.1 G0.2.1 dX3_joined_208 (by decide) ?_
        refine lv_goto (tgt := 213) G0.1 G0.2.1 dX3_joined_209 (by decide) ?_
        exact jn_213 1 _ _ ls hw (lv_sub hl [0, 1, 2] rfl)
  · skip
    have te := ti_eq e_sw
    refine lv_tableIn (off := 153) (tgt := 154) G0.1 G0.2.1 dX3_joined_1 (by omega) (by omega) (by rw [e_sw]; decide) (by decide) ?_
    refine lv_lload_n G0.1 G0.2.1 dX3_joined_154 rfl (lv_at hl 1 rfl) ?_
    refine lv_lload_n G0.1 G0.2.1 dX3_joined_155 rfl (lv_at hl 2 rfl) ?_
    refine W.lcmp G0.1 G0.2.1 dX3_joined_156 ?_
    refine lv_topi (fun x_98 ex_98 => ?_)
    have jn_165 : ∀ (v_99 : Int64) (H_j165 : Heap) (locs : List Loc) (ls : Array Slot), py_W E (va_A (va_pl L f) s.heap.size) s L f H_j165 locs → lv_has ls 5 [(0, .int a), (1, .long b), (3, .long q)] → W p l e (headSpec w_X3_joined ({ frames := 0, cells := 0, slots := 0, locals := 0 })).room s m ([.int a, .long b, .long q] : List Value).toArray below meth c H_j165 locs 0 0 (MQ below (py_Ql E L f s.heap.size (fun _ L1 f1 => L = L1 ∧ f = f1)) ([.int a, .long b, .long q] : List Value).toArray s 0 0 (va_A (va_pl L f) s.heap.size)) (F0 m 165 ls [.long v_99]) := by
      intro v_99 H_j165 locs ls hw hl
      exact py_lret G0 hr hlk hw ⟨rfl, rfl⟩ dX3_joined_165
    refine lv_if_ge (tgt := 164) G0.1 G0.2.1 dX3_joined_157 (by decide) (fun c_100 => ?_) (fun c_100 => ?_)
    · skip
      have tc_100 := ti_le c_100
      refine lv_lconst (v := 0) G0.1 G0.2.1 dX3_joined_164 (by decide) ?_
      exact jn_165 0 _ _ ls hw (lv_sub hl [0, 1, 2] rfl)
    · skip
      have tc_100 := ti_nle c_100
      refine lv_lconst (v := 1) G0.1 G0.2.1 dX3_joined_160 (by decide) ?_
      refine lv_goto (tgt := 165) G0.1 G0.2.1 dX3_joined_161 (by decide) ?_
      exact jn_165 1 _ _ ls hw (lv_sub hl [0, 1, 2] rfl)
  · skip
    have te := ti_eq e_sw
    refine lv_tableIn (off := 141) (tgt := 142) G0.1 G0.2.1 dX3_joined_1 (by omega) (by omega) (by rw [e_sw]; decide) (by decide) ?_
    refine lv_lload_n G0.1 G0.2.1 dX3_joined_142 rfl (lv_at hl 1 rfl) ?_
    refine lv_lload_n G0.1 G0.2.1 dX3_joined_143 rfl (lv_at hl 2 rfl) ?_
    refine W.lcmp G0.1 G0.2.1 dX3_joined_144 ?_
    refine lv_topi (fun x_101 ex_101 => ?_)
    have jn_153 : ∀ (v_102 : Int64) (H_j153 : Heap) (locs : List Loc) (ls : Array Slot), py_W E (va_A (va_pl L f) s.heap.size) s L f H_j153 locs → lv_has ls 5 [(0, .int a), (1, .long b), (3, .long q)] → W p l e (headSpec w_X3_joined ({ frames := 0, cells := 0, slots := 0, locals := 0 })).room s m ([.int a, .long b, .long q] : List Value).toArray below meth c H_j153 locs 0 0 (MQ below (py_Ql E L f s.heap.size (fun _ L1 f1 => L = L1 ∧ f = f1)) ([.int a, .long b, .long q] : List Value).toArray s 0 0 (va_A (va_pl L f) s.heap.size)) (F0 m 153 ls [.long v_102]) := by
      intro v_102 H_j153 locs ls hw hl
      exact py_lret G0 hr hlk hw ⟨rfl, rfl⟩ dX3_joined_153
    refine lv_if_ne (tgt := 152) G0.1 G0.2.1 dX3_joined_145 (by decide) (fun c_103 => ?_) (fun c_103 => ?_)
    · skip
      have tc_103 := ti_ne c_103
      refine lv_lconst (v := 0) G0.1 G0.2.1 dX3_joined_152 (by decide) ?_
      exact jn_153 0 _ _ ls hw (lv_sub hl [0, 1, 2] rfl)
    · skip
      have tc_103 := ti_eq c_103
      refine lv_lconst (v := 1) G0.1 G0.2.1 dX3_joined_148 (by decide) ?_
      refine lv_goto (tgt := 153) G0.1 G0.2.1 dX3_joined_149 (by decide) ?_
      exact jn_153 1 _ _ ls hw (lv_sub hl [0, 1, 2] rfl)
  · skip
    have te := ti_eq e_sw
    refine lv_tableIn (off := 165) (tgt := 166) G0.1 G0.2.1 dX3_joined_1 (by omega) (by omega) (by rw [e_sw]; decide) (by decide) ?_
    refine lv_lload_n G0.1 G0.2.1 dX3_joined_166 rfl (lv_at hl 1 rfl) ?_
    refine lv_lload_n G0.1 G0.2.1 dX3_joined_167 rfl (lv_at hl 2 rfl) ?_
    refine W.lcmp G0.1 G0.2.1 dX3_joined_168 ?_
    refine lv_topi (fun x_104 ex_104 => ?_)
    have jn_177 : ∀ (v_105 : Int64) (H_j177 : Heap) (locs : List Loc) (ls : Array Slot), py_W E (va_A (va_pl L f) s.heap.size) s L f H_j177 locs → lv_has ls 5 [(0, .int a), (1, .long b), (3, .long q)] → W p l e (headSpec w_X3_joined ({ frames := 0, cells := 0, slots := 0, locals := 0 })).room s m ([.int a, .long b, .long q] : List Value).toArray below meth c H_j177 locs 0 0 (MQ below (py_Ql E L f s.heap.size (fun _ L1 f1 => L = L1 ∧ f = f1)) ([.int a, .long b, .long q] : List Value).toArray s 0 0 (va_A (va_pl L f) s.heap.size)) (F0 m 177 ls [.long v_105]) := by
      intro v_105 H_j177 locs ls hw hl
      exact py_lret G0 hr hlk hw ⟨rfl, rfl⟩ dX3_joined_177
    refine lv_if_le (tgt := 176) G0.1 G0.2.1 dX3_joined_169 (by decide) (fun c_106 => ?_) (fun c_106 => ?_)
    · skip
      have tc_106 := ti_le c_106
      refine lv_lconst (v := 0) G0.1 G0.2.1 dX3_joined_176 (by decide) ?_
      exact jn_177 0 _ _ ls hw (lv_sub hl [0, 1, 2] rfl)
    · skip
      have tc_106 := ti_nle c_106
      refine lv_lconst (v := 1) G0.1 G0.2.1 dX3_joined_172 (by decide) ?_
      refine lv_goto (tgt := 177) G0.1 G0.2.1 dX3_joined_173 (by decide) ?_
      exact jn_177 1 _ _ ls hw (lv_sub hl [0, 1, 2] rfl)
  · skip
    refine lv_tableOut (tgt := 196) G0.1 G0.2.1 dX3_joined_1 e_sw (by decide) ?_
    refine lv_lload_n G0.1 G0.2.1 dX3_joined_196 rfl (lv_at hl 1 rfl) ?_
    refine lv_lconst (v := 0) G0.1 G0.2.1 dX3_joined_197 (by decide) ?_
    refine W.lcmp G0.1 G0.2.1 dX3_joined_198 ?_
    refine lv_topi (fun x_107 ex_107 => ?_)
    have jn_213 : ∀ (v_108 : Int64) (H_j213 : Heap) (locs : List Loc) (ls : Array Slot), py_W E (va_A (va_pl L f) s.heap.size) s L f H_j213 locs → lv_has ls 5 [(0, .int a), (1, .long b), (3, .long q)] → W p l e (headSpec w_X3_joined ({ frames := 0, cells := 0, slots := 0, locals := 0 })).room s m ([.int a, .long b, .long q] : List Value).toArray below meth c H_j213 locs 0 0 (MQ below (py_Ql E L f s.heap.size (fun _ L1 f1 => L = L1 ∧ f = f1)) ([.int a, .long b, .long q] : List Value).toArray s 0 0 (va_A (va_pl L f) s.heap.size)) (F0 m 213 ls [.long v_108]) := by
      intro v_108 H_j213 locs ls hw hl
      exact py_lret G0 hr hlk hw ⟨rfl, rfl⟩ dX3_joined_213
    refine lv_if_ne (tgt := 208) G0.1 G0.2.1 dX3_joined_199 (by decide) (fun c_109 => ?_) (fun c_109 => ?_)
    · skip
      have tc_109 := ti_ne c_109
      refine lv_lconst (v := 1) G0.1 G0.2.1 dX3_joined_208 (by decide) ?_
      refine lv_goto (tgt := 213) G0.1 G0.2.1 dX3_joined_209 (by decide) ?_
      exact jn_213 1 _ _ ls hw (lv_sub hl [0, 1, 2] rfl)
    · skip
      have tc_109 := ti_eq c_109
      refine lv_lload_n G0.1 G0.2.1 dX3_joined_202 rfl (lv_at hl 2 rfl) ?_
      refine lv_lconst (v := 0) G0.1 G0.2.1 dX3_joined_203 (by decide) ?_
      refine W.lcmp G0.1 G0.2.1 dX3_joined_204 ?_
      refine lv_topi (fun x_110 ex_110 => ?_)
      refine lv_if_eq (tgt := 212) G0.1 G0.2.1 dX3_joined_205 (by decide) (fun c_111 => ?_) (fun c_111 => ?_)
      · skip
        have tc_111 := ti_eq c_111
        refine lv_lconst (v := 0) G0.1 G0.2.1 dX3_joined_212 (by decide) ?_
        exact jn_213 0 _ _ ls hw (lv_sub hl [0, 1, 2] rfl)
      · skip
        have tc_111 := ti_ne c_111
        refine lv_lconst (v := 1) G0.1 G0.2.1 dX3_joined_208 (by decide) ?_
        refine lv_goto (tgt := 213) G0.1 G0.2.1 dX3_joined_209 (by decide) ?_
        exact jn_213 1 _ _ ls hw (lv_sub hl [0, 1, 2] rfl)

def w_X3_held : List Cond := .code yX3_held cX3_held 3 (some .int) :: ([] ++ ([]))
set_option maxHeartbeats 4000000 in
set_option maxRecDepth 100000 in
theorem c_X3_held (l : Launch) (E : py_E) (G : wf_G) (L : List Nat) (f : py_F) (sz : Nat) (a : Int64) (b : Int32) (hG : GT G) (hWF : WF E G L f) : Met l yX3_held w_X3_held ({ frames := 0, cells := 0, slots := 0, locals := 0 }) (py_Pc E [.long a, .int b] L f sz) (py_Qi E L f sz (fun _ L1 f1 => L = L1 ∧ f = f1)) 0 0 (va_A (va_pl L f) sz) := by
  refine Met.ofW (cc := cX3_held) (maxL := 3) (ret := (some .int)) (by decide) rfl ?_
  intro p e s m args below meth c s₁ B hml hv
  obtain ⟨rfl, rfl, hw⟩ := py_start hv
  have G0 : CallFix p m c cX3_held 3 s _ w_X3_held RX3 := ⟨B.exec, B.bytes, hml, findClass_of_methodNamed B.named, atoms_spec (ws := w_X3_held) B.pre⟩
  have hr := B.returns
  have hlk := B.notSynchronized
  have kcm1 : (-1 : Int32).toInt = -1 := rfl
  have kc0 : (0 : Int32).toInt = 0 := rfl
  have kc1 : (1 : Int32).toInt = 1 := rfl
  have hl := lv_entry ([.long a, .int b]) (n := 3) (Nat.le_of_ble_eq_true rfl)
  rw [lg_entry_eq]
  generalize (lg_sl ([.long a, .int b]) ++ List.replicate (3 - (lg_sl ([.long a, .int b])).length) Slot.unset).toArray = ls at hl ⊢
  have hl : lv_has ls 3 [(0, .long a), (2, .int b)] := hl
  have hRP : RP E G f f := RP.refl
  refine lv_lload_n G0.1 G0.2.1 dX3_held_0 rfl (lv_at hl 0 rfl) ?_
  refine lv_iload_n G0.1 G0.2.1 dX3_held_1 rfl (lv_at hl 1 rfl) ?_
  refine lv_i2l (v := b.toInt64) G0.1 G0.2.1 dX3_held_2 rfl ?_
  refine W.lcmp G0.1 G0.2.1 dX3_held_3 ?_
  refine lv_topi (fun x_1 ex_1 => ?_)
  refine lv_if_le (tgt := 9) G0.1 G0.2.1 dX3_held_4 (by decide) (fun c_2 => ?_) (fun c_2 => ?_)
  · skip
    have tc_2 := ti_le c_2
    refine lv_lload_n G0.1 G0.2.1 dX3_held_9 rfl (lv_at hl 0 rfl) ?_
    refine lv_iload_n G0.1 G0.2.1 dX3_held_10 rfl (lv_at hl 1 rfl) ?_
    refine lv_ineg G0.1 G0.2.1 dX3_held_11 ?_
    refine lv_topi (fun x_3 ex_3 => ?_)
    refine lv_i2l (v := x_3.toInt64) G0.1 G0.2.1 dX3_held_12 rfl ?_
    refine W.lcmp G0.1 G0.2.1 dX3_held_13 ?_
    refine lv_topi (fun x_4 ex_4 => ?_)
    have jn_24 : ∀ (v_5 : Int32) (H_j24 : Heap) (locs : List Loc) (ls : Array Slot), py_W E (va_A (va_pl L f) s.heap.size) s L f H_j24 locs → lv_has ls 3 [(0, .long a), (2, .int b)] → W p l e (headSpec w_X3_held ({ frames := 0, cells := 0, slots := 0, locals := 0 })).room s m ([.long a, .int b] : List Value).toArray below meth c H_j24 locs 0 0 (MQ below (py_Qi E L f s.heap.size (fun _ L1 f1 => L = L1 ∧ f = f1)) ([.long a, .int b] : List Value).toArray s 0 0 (va_A (va_pl L f) s.heap.size)) (F0 m 24 ls [.int v_5]) := by
      intro v_5 H_j24 locs ls hw hl
      exact py_iret G0 hr rfl hlk hw ⟨rfl, rfl⟩ dX3_held_24
    refine lv_if_ge (tgt := 22) G0.1 G0.2.1 dX3_held_14 (by decide) (fun c_6 => ?_) (fun c_6 => ?_)
    · skip
      have tc_6 := ti_le c_6
      refine lv_lload_n G0.1 G0.2.1 dX3_held_22 rfl (lv_at hl 0 rfl) ?_
      refine lv_l2i G0.1 G0.2.1 dX3_held_23 rfl ?_
      refine lv_topi (fun x_7 ex_7 => ?_)
      exact jn_24 x_7 _ _ ls hw (lv_sub hl [0, 1] rfl)
    · skip
      have tc_6 := ti_nle c_6
      refine lv_iload_n G0.1 G0.2.1 dX3_held_17 rfl (lv_at hl 1 rfl) ?_
      refine lv_ineg G0.1 G0.2.1 dX3_held_18 ?_
      refine lv_topi (fun x_8 ex_8 => ?_)
      refine lv_goto (tgt := 24) G0.1 G0.2.1 dX3_held_19 (by decide) ?_
      exact jn_24 x_8 _ _ ls hw (lv_sub hl [0, 1] rfl)
  · skip
    have tc_2 := ti_nle c_2
    refine lv_iload_n G0.1 G0.2.1 dX3_held_7 rfl (lv_at hl 1 rfl) ?_
    exact py_iret G0 hr rfl hlk hw ⟨rfl, rfl⟩ dX3_held_8

def w_X3_worth : List Cond := .code yX3_worth cX3_worth 6 (some .int) :: ([Cond.fieldLink RX3 18 "HeadYear$Law" "length" "I", Cond.fieldLink RX3 9 "HeadYear$Law" "code" "[I", Cond.constant RX3 28 (65535), Cond.methodLink RX3 29 yX3_takenBy, Cond.static yX3_takenBy, Cond.initialized RX3, Cond.fieldLink RX3 15 "HeadYear$Law" "stack" "[I", Cond.methodLink RX3 39 yX3_joined, Cond.static yX3_joined, Cond.constant RX3 43 (1000000), Cond.methodLink RX3 44 yX3_held, Cond.static yX3_held, Cond.methodLink RX3 33 Lib.Math.max.name, Cond.static Lib.Math.max.name, Cond.initialized "java/lang/Math", Cond.code Lib.Math.max.name Lib.Math.max.code 2 (some .int)] ++ (u_ws RX3 TX3 3 ++ (w_X3_takenBy ++ (w_X3_joined ++ (w_X3_held ++ ([]))))))
theorem in_X3_worth_X3 : ∀ w ∈ u_ws RX3 TX3 3, w ∈ w_X3_worth := fun _ h => List.mem_cons_of_mem _ (List.mem_append_right _ (List.mem_append_left _ h))
theorem gg_X3_worth_X3_takenBy : GoodIn w_X3_worth w_X3_takenBy := goodIn_sub (fun _ h => List.mem_cons_of_mem _ (List.mem_append_right _ (List.mem_append_right _ (List.mem_append_left _ h)))) (by decide +kernel)
theorem gg_X3_worth_X3_joined : GoodIn w_X3_worth w_X3_joined := goodIn_sub (fun _ h => List.mem_cons_of_mem _ (List.mem_append_right _ (List.mem_append_right _ (List.mem_append_right _ (List.mem_append_left _ h))))) (by decide +kernel)
theorem gg_X3_worth_X3_held : GoodIn w_X3_worth w_X3_held := goodIn_sub (fun _ h => List.mem_cons_of_mem _ (List.mem_append_right _ (List.mem_append_right _ (List.mem_append_right _ (List.mem_append_right _ (List.mem_append_left _ h)))))) (by decide +kernel)
theorem g_X3_worth_X3_held_44 : GoodIn w_X3_worth (va_wsS RX3 44 yX3_held w_X3_held) := goodIn_app (goodIn_of _ (by decide +kernel)) gg_X3_worth_X3_held
theorem g_X3_worth_X3_joined_39 : GoodIn w_X3_worth (va_wsS RX3 39 yX3_joined w_X3_joined) := goodIn_app (goodIn_of _ (by decide +kernel)) gg_X3_worth_X3_joined
theorem g_X3_worth_X3_takenBy_29 : GoodIn w_X3_worth (va_wsS RX3 29 yX3_takenBy w_X3_takenBy) := goodIn_app (goodIn_of _ (by decide +kernel)) gg_X3_worth_X3_takenBy
set_option maxHeartbeats 4000000 in
set_option maxRecDepth 100000 in
theorem c_X3_worth (l : Launch) (E : py_E) (G : wf_G) (L : List Nat) (f : py_F) (sz : Nat) (h : Nat) (a : Nat) (hG : GT G) (hWF : WF E G L f) (Th : G.1 h = 4) (Ta : G.1 a = 32) : Met l yX3_worth w_X3_worth ({ frames := 1, cells := 0, slots := 0, locals := 24 }) (py_Pc E [.ref h, .ref a] L f sz) (py_Qi E L f sz (fun _ L1 f1 => WF E G L1 f1 ∧ RP E G f f1 ∧ KP G [21] false f f1)) 0 0 (va_A (va_pl L f) sz) := by
  refine Met.ofW (cc := cX3_worth) (maxL := 6) (ret := (some .int)) (by decide) rfl ?_
  intro p e s m args below meth c s₁ B hml hv
  obtain ⟨rfl, rfl, hw⟩ := py_start hv
  have G0 : CallFix p m c cX3_worth 6 s _ w_X3_worth RX3 := ⟨B.exec, B.bytes, hml, findClass_of_methodNamed B.named, atoms_spec (ws := w_X3_worth) B.pre⟩
  have hr := B.returns
  have hlk := B.notSynchronized
  have kcm1 : (-1 : Int32).toInt = -1 := rfl
  have kc0 : (0 : Int32).toInt = 0 := rfl
  have kc1 : (1 : Int32).toInt = 1 := rfl
  have kc6 : (6 : Int32).toInt = 6 := rfl
  have kc16 : (16 : Int32).toInt = 16 := rfl
  have kc32 : (32 : Int32).toInt = 32 := rfl
  have kc33 : (33 : Int32).toInt = 33 := rfl
  have kc48 : (48 : Int32).toInt = 48 := rfl
  have kc59 : (59 : Int32).toInt = 59 := rfl
  have kc63 : (63 : Int32).toInt = 63 := rfl
  have kc121 : (121 : Int32).toInt = 121 := rfl
  have kc65535 : (65535 : Int32).toInt = 65535 := rfl
  have kc1000000 : (1000000 : Int32).toInt = 1000000 := rfl
  have hl := lv_entry ([.ref h, .ref a]) (n := 6) (Nat.le_of_ble_eq_true rfl)
  rw [lg_entry_eq]
  generalize (lg_sl ([.ref h, .ref a]) ++ List.replicate (6 - (lg_sl ([.ref h, .ref a])).length) Slot.unset).toArray = ls at hl ⊢
  have hl : lv_has ls 6 [(0, .ref h), (1, .ref a)] := hl
  have hRP : RP E G f f := RP.refl
  have hKP : KP G [21] false f f := KP.refl
  refine lv_iconst (v := 0) G0.1 G0.2.1 dX3_worth_0 (by decide) ?_
  refine lv_istore_n (lv' := [(2, .int 0), (0, .ref h), (1, .ref a)]) G0.1 G0.2.1 dX3_worth_1 rfl hl (by decide) rfl (fun ls hl => ?_)
  refine lv_iconst (v := 0) G0.1 G0.2.1 dX3_worth_2 (by decide) ?_
  refine lv_istore_n (lv' := [(3, .int 0), (2, .int 0), (0, .ref h), (1, .ref a)]) G0.1 G0.2.1 dX3_worth_3 rfl hl (by decide) rfl (fun ls hl => ?_)
  have lo_4 : ∀ n_4 : Nat, ∀ (v_1 : Int32) (v_2 : Int32) (L_j4 : List Nat) (f_j4 : py_F) (H_j4 : Heap) (locs : List Loc) (ls : Array Slot), (2147483647 - v_1.toInt).toNat = n_4 → (0 ≤ v_1.toInt ∧ v_1.toInt ≤ 2147483647) → (0 ≤ v_2.toInt ∧ v_2.toInt ≤ 32) → WF E G L_j4 f_j4 → RP E G f f_j4 → KP G [21] false f f_j4 → py_W E (va_A (va_pl L f) s.heap.size) s L_j4 f_j4 H_j4 locs → lv_has ls 6 [(3, .int v_1), (2, .int v_2), (0, .ref h), (1, .ref a)] → W p l e (headSpec w_X3_worth ({ frames := 1, cells := 0, slots := 0, locals := 24 })).room s m ([.ref h, .ref a] : List Value).toArray below meth c H_j4 locs 0 0 (MQ below (py_Qi E L f s.heap.size (fun _ L1 f1 => WF E G L1 f1 ∧ RP E G f f1 ∧ KP G [21] false f f1)) ([.ref h, .ref a] : List Value).toArray s 0 0 (va_A (va_pl L f) s.heap.size)) (F0 m 4 ls []) := by
    intro n_4
    induction n_4 using Nat.strongRecOn with
    | _ n_4 ih_4 =>
      intro v_1 v_2 L_j4 f_j4 H_j4 locs ls hn_4 bv_1 bv_2 hWF hRP hKP hw hl
      refine lv_iload_n G0.1 G0.2.1 dX3_worth_4 rfl (lv_at hl 0 rfl) ?_
      refine lv_aload_n G0.1 G0.2.1 dX3_worth_5 rfl (lv_at hl 2 rfl) ?_
      obtain ⟨t_3, t_4⟩ := wt_3 hG Th
      obtain ⟨v_5, hr_7, b_6⟩ := wg_3 hWF Th
      refine py_get (C := RX3) (T := TX3) (N := 3) (k := 2) (v := .int v_5) G0 hw in_X3_worth_X3 rfl hr_7 (by decide) (by decide +kernel) rfl dX3_worth_6 ?_
      refine lv_icmp_ge (tgt := 229) G0.1 G0.2.1 dX3_worth_9 (by decide) (fun c_8 => ?_) (fun c_8 => ?_)
      · skip
        have tc_8 := ti_le c_8
        refine lv_iconst (v := 0) G0.1 G0.2.1 dX3_worth_229 (by decide) ?_
        exact py_iret G0 hr rfl hlk hw ⟨hWF, hRP, hKP⟩ dX3_worth_230
      · skip
        have tc_8 := ti_nle c_8
        refine lv_aload_n G0.1 G0.2.1 dX3_worth_12 rfl (lv_at hl 2 rfl) ?_
        refine py_get (C := RX3) (T := TX3) (N := 3) (k := 0) (v := .ref (G.2 h 0)) G0 hw in_X3_worth_X3 rfl hr_7 (by decide) (by decide +kernel) rfl dX3_worth_13 ?_
        refine lv_iload_n G0.1 G0.2.1 dX3_worth_16 rfl (lv_at hl 0 rfl) ?_
        obtain ⟨g_9, ha_10, hi_11⟩ := wf_arr (n := 160) (lo := (-2147483648)) (hi := 2147483647) hWF t_3 (by decide) (fun _ => rfl)
        have rg_12 : vp_in v_1 160 := ti_in (by omega) (by omega)
        refine py_iald G0 hw ha_10 rg_12 dX3_worth_17 ?_
        refine lv_topi (fun x_13 ex_13 => ?_)
        have bx_13 := wf_free x_13
        refine lv_bipush (v := 16) G0.1 G0.2.1 dX3_worth_18 (by decide) ?_
        refine lv_ishr G0.1 G0.2.1 dX3_worth_20 ?_
        refine lv_topi (fun x_14 ex_14 => ?_)
        refine lv_istore (lv' := [(4, .int x_14), (3, .int v_1), (2, .int v_2), (0, .ref h), (1, .ref a)]) G0.1 G0.2.1 dX3_worth_21 hl (by decide) rfl (fun ls hl => ?_)
        refine lv_aload_n G0.1 G0.2.1 dX3_worth_23 rfl (lv_at hl 3 rfl) ?_
        refine py_get (C := RX3) (T := TX3) (N := 3) (k := 0) (v := .ref (G.2 h 0)) G0 hw in_X3_worth_X3 rfl hr_7 (by decide) (by decide +kernel) rfl dX3_worth_24 ?_
        refine lv_iload_n G0.1 G0.2.1 dX3_worth_27 rfl (lv_at hl 1 rfl) ?_
        have rg_15 : vp_in v_1 160 := ti_in (by omega) (by omega)
        refine py_iald G0 hw ha_10 rg_15 dX3_worth_28 ?_
        refine lv_topi (fun x_16 ex_16 => ?_)
        have bx_16 := wf_free x_16
        refine lv_ldc (v := 65535) G0.1 G0.2.1 G0.2.2.2.1 (G0.2.2.2.2 (Cond.constant RX3 28 (65535)) (by decide +kernel)) dX3_worth_29 ?_
        refine lv_iand G0.1 G0.2.1 dX3_worth_31 ?_
        refine lv_topi (fun x_17 ex_17 => ?_)
        have tlx_17 := ti_low ex_17
        refine lv_istore (lv' := [(5, .int x_17), (4, .int x_14), (3, .int v_1), (2, .int v_2), (0, .ref h), (1, .ref a)]) G0.1 G0.2.1 dX3_worth_32 hl (by decide) rfl (fun ls hl => ?_)
        refine lv_iload_n G0.1 G0.2.1 dX3_worth_34 rfl (lv_at hl 3 rfl) ?_
        refine lv_iload G0.1 G0.2.1 dX3_worth_35 (lv_at hl 1 rfl) ?_
        refine py_calli hw (va_runS (As := [.int x_14]) (rest := [.int v_2]) G0 (c_X3_takenBy l E G L_j4 f_j4 H_j4.size x_14 hG hWF) (va_cwS 1 G0.2.2.2.2 g_X3_worth_X3_takenBy_29 rfl rfl rfl (by decide +kernel) ⟨(Nat.le_of_ble_eq_true rfl), (Nat.le_of_ble_eq_true rfl)⟩) (py_preS hw) rfl rfl hl.1 rfl (lv_room (Nat.le_of_ble_eq_true rfl)) dX3_worth_37 ⟨(Nat.le_of_ble_eq_true rfl), (Nat.le_of_ble_eq_true rfl)⟩) (fun r_22 L_18 f_19 H_20 locs hp_21 hw => ?_)
        obtain ⟨en_23, en_24, rfl, rfl⟩ := hp_21
        have br_22 := wf_free r_22
        refine lv_icmp_lt (tgt := 63) G0.1 G0.2.1 dX3_worth_40 (by decide) (fun c_25 => ?_) (fun c_25 => ?_)
        · skip
          have tc_25 := ti_lt c_25
          refine lv_iconst (v := 0) G0.1 G0.2.1 dX3_worth_63 (by decide) ?_
          exact py_iret G0 hr rfl hlk hw ⟨hWF, hRP, hKP⟩ dX3_worth_64
        · skip
          have tc_25 := ti_nlt c_25
          refine lv_iload_n G0.1 G0.2.1 dX3_worth_43 rfl (lv_at hl 3 rfl) ?_
          refine lv_bipush (v := 32) G0.1 G0.2.1 dX3_worth_44 (by decide) ?_
          refine lv_icmp_ge (tgt := 63) G0.1 G0.2.1 dX3_worth_46 (by decide) (fun c_26 => ?_) (fun c_26 => ?_)
          · skip
            have tc_26 := ti_le c_26
            refine lv_iconst (v := 0) G0.1 G0.2.1 dX3_worth_63 (by decide) ?_
            exact py_iret G0 hr rfl hlk hw ⟨hWF, hRP, hKP⟩ dX3_worth_64
          · skip
            have tc_26 := ti_nle c_26
            refine lv_iload G0.1 G0.2.1 dX3_worth_49 (lv_at hl 1 rfl) ?_
            refine lv_bipush (v := 121) G0.1 G0.2.1 dX3_worth_51 (by decide) ?_
            refine lv_icmp_ne (tgt := 65) G0.1 G0.2.1 dX3_worth_53 (by decide) (fun c_27 => ?_) (fun c_27 => ?_)
            · skip
              have tc_27 := ti_ne c_27
              refine lv_iload G0.1 G0.2.1 dX3_worth_65 (lv_at hl 1 rfl) ?_
              refine lv_bipush (v := 48) G0.1 G0.2.1 dX3_worth_67 (by decide) ?_
              refine lv_icmp_eq (tgt := 79) G0.1 G0.2.1 dX3_worth_69 (by decide) (fun c_28 => ?_) (fun c_28 => ?_)
              · skip
                have tc_28 := ti_eq c_28
                refine lv_aload_n G0.1 G0.2.1 dX3_worth_79 rfl (lv_at hl 4 rfl) ?_
                refine py_get (C := RX3) (T := TX3) (N := 3) (k := 1) (v := .ref (G.2 h 1)) G0 hw in_X3_worth_X3 rfl hr_7 (by decide) (by decide +kernel) rfl dX3_worth_80 ?_
                refine lv_iload_n G0.1 G0.2.1 dX3_worth_83 rfl (lv_at hl 3 rfl) ?_
                refine lv_iload G0.1 G0.2.1 dX3_worth_84 (lv_at hl 1 rfl) ?_
                refine lv_bipush (v := 48) G0.1 G0.2.1 dX3_worth_86 (by decide) ?_
                have jn_100 : ∀ (v_29 : Int32) (H_j100 : Heap) (locs : List Loc) (ls : Array Slot), py_W E (va_A (va_pl L f) s.heap.size) s L_j4 f_j4 H_j100 locs → lv_has ls 6 [(5, .int x_17), (4, .int x_14), (3, .int v_1), (2, .int v_2), (0, .ref h), (1, .ref a)] → W p l e (headSpec w_X3_worth ({ frames := 1, cells := 0, slots := 0, locals := 24 })).room s m ([.ref h, .ref a] : List Value).toArray below meth c H_j100 locs 0 0 (MQ below (py_Qi E L f s.heap.size (fun _ L1 f1 => WF E G L1 f1 ∧ RP E G f f1 ∧ KP G [21] false f f1)) ([.ref h, .ref a] : List Value).toArray s 0 0 (va_A (va_pl L f) s.heap.size)) (F0 m 100 ls [.int v_29, .int v_2, .ref (G.2 h 1)]) := by
                  intro v_29 H_j100 locs ls hw hl
                  obtain ⟨g_30, ha_31, hi_32⟩ := wf_arr (n := 32) (lo := (-2147483648)) (hi := 2147483647) hWF t_4 (by decide) (fun _ => rfl)
                  have rg_33 : vp_in v_2 32 := ti_in (by omega) (by omega)
                  refine py_iast G0 hw ha_31 rg_33 dX3_worth_100 (fun f_34 H_35 locs h_36 x_37 hw => ?_)
                  have hKP := hKP.upd hWF x_37 t_4 (Or.inl (by decide))
                  have hRP := hRP.trans (rp_upd hG hWF x_37 ha_31.2 h_36.2 (rp_code hG t_4 (by decide)) rfl)
                  have hi_38 := wf_inu (k := (v_2 : Int32).toNatClampNeg) (x := v_29) hi_32 (wf_free v_29).1 (wf_free v_29).2
                  have hWF := wf_upd hWF h_36 x_37 (by rw [t_4]; exact ⟨_, rfl, hi_38⟩)
                  have hr_7 := hr_7.ext x_37 (py_ne_arr hr_7 ha_31)
                  have ha_10 := ha_10.ext x_37 (wf_ne t_3 t_4 (by decide))
                  obtain ⟨x_39, ex_39⟩ : ∃ y : Int32, y = v_2 + 1 := ⟨_, rfl⟩
                  first | have tx_39 := ti_add ex_39 (by omega) (by omega) | skip
                  refine lv_iinc (v := x_39) (lv' := [(2, .int x_39), (5, .int x_17), (4, .int x_14), (3, .int v_1), (0, .ref h), (1, .ref a)]) G0.1 G0.2.1 dX3_worth_101 hl (k := 3) rfl (show _ + (1 : Int32) = _ from ex_39.symm) (by decide) rfl (fun ls hl => ?_)
                  refine lv_goto (tgt := 223) G0.1 G0.2.1 dX3_worth_104 (by decide) ?_
                  obtain ⟨x_40, ex_40⟩ : ∃ y : Int32, y = v_1 + 1 := ⟨_, rfl⟩
                  first | have tx_40 := ti_add ex_40 (by omega) (by omega) | skip
                  refine lv_iinc (v := x_40) (lv' := [(3, .int x_40), (2, .int x_39), (5, .int x_17), (4, .int x_14), (0, .ref h), (1, .ref a)]) G0.1 G0.2.1 dX3_worth_223 hl (k := 3) rfl (show _ + (1 : Int32) = _ from ex_40.symm) (by decide) rfl (fun ls hl => ?_)
                  refine lv_goto (tgt := 4) G0.1 G0.2.1 dX3_worth_226 (by decide) ?_
                  exact ih_4 ((2147483647 - x_40.toInt).toNat) (by omega) x_40 x_39 L_j4 f_34 _ _ ls rfl ⟨by omega, by omega⟩ ⟨by omega, by omega⟩ hWF hRP hKP hw (lv_sub hl [0, 1, 4, 5] rfl)
                refine lv_icmp_ne (tgt := 96) G0.1 G0.2.1 dX3_worth_88 (by decide) (fun c_41 => ?_) (fun c_41 => ?_)
                · skip
                  have tc_41 := ti_ne c_41
                  refine lv_aload_n G0.1 G0.2.1 dX3_worth_96 rfl (lv_at hl 5 rfl) ?_
                  refine lv_iload G0.1 G0.2.1 dX3_worth_97 (lv_at hl 0 rfl) ?_
                  obtain ⟨g_42, ha_43, hi_44⟩ := wf_arr (n := 6) (lo := (-2147483648)) (hi := 2147483647) hWF Ta (by decide) (fun _ => rfl)
                  have rg_45 : vp_in x_17 6 := ti_in (by omega) (by omega)
                  refine py_iald G0 hw ha_43 rg_45 dX3_worth_99 ?_
                  refine lv_topi (fun x_46 ex_46 => ?_)
                  have bx_46 := wf_free x_46
                  exact jn_100 x_46 _ _ ls hw (lv_sub hl [0, 1, 2, 3, 4, 5] rfl)
                · skip
                  have tc_41 := ti_eq c_41
                  refine lv_iload G0.1 G0.2.1 dX3_worth_91 (lv_at hl 0 rfl) ?_
                  refine lv_goto (tgt := 100) G0.1 G0.2.1 dX3_worth_93 (by decide) ?_
                  exact jn_100 x_17 _ _ ls hw (lv_sub hl [0, 1, 2, 3, 4, 5] rfl)
              · skip
                have tc_28 := ti_ne c_28
                refine lv_iload G0.1 G0.2.1 dX3_worth_72 (lv_at hl 1 rfl) ?_
                refine lv_bipush (v := 121) G0.1 G0.2.1 dX3_worth_74 (by decide) ?_
                refine lv_icmp_ne (tgt := 107) G0.1 G0.2.1 dX3_worth_76 (by decide) (fun c_47 => ?_) (fun c_47 => ?_)
                · skip
                  have tc_47 := ti_ne c_47
                  refine lv_iload G0.1 G0.2.1 dX3_worth_107 (lv_at hl 1 rfl) ?_
                  refine lv_bipush (v := 59) G0.1 G0.2.1 dX3_worth_109 (by decide) ?_
                  refine lv_icmp_ne (tgt := 123) G0.1 G0.2.1 dX3_worth_111 (by decide) (fun c_48 => ?_) (fun c_48 => ?_)
                  · skip
                    have tc_48 := ti_ne c_48
                    refine lv_iload G0.1 G0.2.1 dX3_worth_123 (lv_at hl 1 rfl) ?_
                    refine lv_bipush (v := 63) G0.1 G0.2.1 dX3_worth_125 (by decide) ?_
                    refine lv_icmp_ne (tgt := 158) G0.1 G0.2.1 dX3_worth_127 (by decide) (fun c_49 => ?_) (fun c_49 => ?_)
                    · skip
                      have tc_49 := ti_ne c_49
                      refine lv_iload G0.1 G0.2.1 dX3_worth_158 (lv_at hl 1 rfl) ?_
                      refine lv_bipush (v := 33) G0.1 G0.2.1 dX3_worth_160 (by decide) ?_
                      refine lv_icmp_ne (tgt := 186) G0.1 G0.2.1 dX3_worth_162 (by decide) (fun c_50 => ?_) (fun c_50 => ?_)
                      · skip
                        have tc_50 := ti_ne c_50
                        obtain ⟨x_51, ex_51⟩ : ∃ y : Int32, y = v_2 + (-1) := ⟨_, rfl⟩
                        first | have tx_51 := ti_add ex_51 (by omega) (by omega) | skip
                        refine lv_iinc (v := x_51) (lv' := [(2, .int x_51), (5, .int x_17), (4, .int x_14), (3, .int v_1), (0, .ref h), (1, .ref a)]) G0.1 G0.2.1 dX3_worth_186 hl (k := 3) rfl (show _ + ((-1) : Int32) = _ from ex_51.symm) (by decide) rfl (fun ls hl => ?_)
                        refine lv_aload_n G0.1 G0.2.1 dX3_worth_189 rfl (lv_at hl 4 rfl) ?_
                        refine py_get (C := RX3) (T := TX3) (N := 3) (k := 1) (v := .ref (G.2 h 1)) G0 hw in_X3_worth_X3 rfl hr_7 (by decide) (by decide +kernel) rfl dX3_worth_190 ?_
                        refine lv_iload_n G0.1 G0.2.1 dX3_worth_193 rfl (lv_at hl 0 rfl) ?_
                        refine lv_iconst (v := 1) G0.1 G0.2.1 dX3_worth_194 (by decide) ?_
                        refine lv_isub G0.1 G0.2.1 dX3_worth_195 ?_
                        refine lv_topi (fun x_52 ex_52 => ?_)
                        first | have tx_52 := ti_sub ex_52 (by omega) (by omega) | skip
                        refine lv_iload G0.1 G0.2.1 dX3_worth_196 (lv_at hl 2 rfl) ?_
                        refine lv_aload_n G0.1 G0.2.1 dX3_worth_198 rfl (lv_at hl 4 rfl) ?_
                        refine py_get (C := RX3) (T := TX3) (N := 3) (k := 1) (v := .ref (G.2 h 1)) G0 hw in_X3_worth_X3 rfl hr_7 (by decide) (by decide +kernel) rfl dX3_worth_199 ?_
                        refine lv_iload_n G0.1 G0.2.1 dX3_worth_202 rfl (lv_at hl 0 rfl) ?_
                        refine lv_iconst (v := 1) G0.1 G0.2.1 dX3_worth_203 (by decide) ?_
                        refine lv_isub G0.1 G0.2.1 dX3_worth_204 ?_
                        refine lv_topi (fun x_53 ex_53 => ?_)
                        first | have tx_53 := ti_sub ex_53 (by omega) (by omega) | skip
                        obtain ⟨g_54, ha_55, hi_56⟩ := wf_arr (n := 32) (lo := (-2147483648)) (hi := 2147483647) hWF t_4 (by decide) (fun _ => rfl)
                        have rg_57 : vp_in x_53 32 := ti_in (by omega) (by omega)
                        refine py_iald G0 hw ha_55 rg_57 dX3_worth_205 ?_
                        refine lv_topi (fun x_58 ex_58 => ?_)
                        have bx_58 := wf_free x_58
                        refine lv_i2l (v := x_58.toInt64) G0.1 G0.2.1 dX3_worth_206 rfl ?_
                        refine lv_aload_n G0.1 G0.2.1 dX3_worth_207 rfl (lv_at hl 4 rfl) ?_
                        refine py_get (C := RX3) (T := TX3) (N := 3) (k := 1) (v := .ref (G.2 h 1)) G0 hw in_X3_worth_X3 rfl hr_7 (by decide) (by decide +kernel) rfl dX3_worth_208 ?_
                        refine lv_iload_n G0.1 G0.2.1 dX3_worth_211 rfl (lv_at hl 0 rfl) ?_
                        have rg_59 : vp_in x_51 32 := ti_in (by omega) (by omega)
                        refine py_iald G0 hw ha_55 rg_59 dX3_worth_212 ?_
                        refine lv_topi (fun x_60 ex_60 => ?_)
                        have bx_60 := wf_free x_60
                        refine lv_i2l (v := x_60.toInt64) G0.1 G0.2.1 dX3_worth_213 rfl ?_
                        refine py_calll hw (va_runS (As := [.int x_14, .long (x_58.toInt64), .long (x_60.toInt64)]) (rest := [.int x_52, .ref (G.2 h 1)]) G0 (c_X3_joined l E G L_j4 f_j4 H_20.size x_14 (x_58.toInt64) (x_60.toInt64) hG hWF) (va_cwS 3 G0.2.2.2.2 g_X3_worth_X3_joined_39 rfl rfl rfl (by decide +kernel) ⟨(Nat.le_of_ble_eq_true rfl), (Nat.le_of_ble_eq_true rfl)⟩) (py_preS hw) rfl rfl hl.1 rfl (lv_room (Nat.le_of_ble_eq_true rfl)) dX3_worth_214 ⟨(Nat.le_of_ble_eq_true rfl), (Nat.le_of_ble_eq_true rfl)⟩) (fun r_65 L_61 f_62 H_63 locs hp_64 hw => ?_)
                        obtain ⟨rfl, rfl⟩ := hp_64
                        refine lv_ldc (v := 1000000) G0.1 G0.2.1 G0.2.2.2.1 (G0.2.2.2.2 (Cond.constant RX3 43 (1000000)) (by decide +kernel)) dX3_worth_217 ?_
                        refine py_calli hw (va_runS (As := [.long r_65, .int 1000000]) (rest := [.int x_52, .ref (G.2 h 1)]) G0 (c_X3_held l E G L_j4 f_j4 H_63.size r_65 1000000 hG hWF) (va_cwS 2 G0.2.2.2.2 g_X3_worth_X3_held_44 rfl rfl rfl (by decide +kernel) ⟨(Nat.le_of_ble_eq_true rfl), (Nat.le_of_ble_eq_true rfl)⟩) (py_preS hw) rfl rfl hl.1 rfl (lv_room (Nat.le_of_ble_eq_true rfl)) dX3_worth_219 ⟨(Nat.le_of_ble_eq_true rfl), (Nat.le_of_ble_eq_true rfl)⟩) (fun r_70 L_66 f_67 H_68 locs hp_69 hw => ?_)
                        obtain ⟨rfl, rfl⟩ := hp_69
                        have br_70 := wf_free r_70
                        have rg_71 : vp_in x_52 32 := ti_in (by omega) (by omega)
                        refine py_iast G0 hw ha_55 rg_71 dX3_worth_222 (fun f_72 H_73 locs h_74 x_75 hw => ?_)
                        have hKP := hKP.upd hWF x_75 t_4 (Or.inl (by decide))
                        have hRP := hRP.trans (rp_upd hG hWF x_75 ha_55.2 h_74.2 (rp_code hG t_4 (by decide)) rfl)
                        have hi_76 := wf_inu (k := (x_52 : Int32).toNatClampNeg) (x := r_70) hi_56 (wf_free r_70).1 (wf_free r_70).2
                        have hWF := wf_upd hWF h_74 x_75 (by rw [t_4]; exact ⟨_, rfl, hi_76⟩)
                        have hr_7 := hr_7.ext x_75 (py_ne_arr hr_7 ha_55)
                        have ha_10 := ha_10.ext x_75 (wf_ne t_3 t_4 (by decide))
                        obtain ⟨x_77, ex_77⟩ : ∃ y : Int32, y = v_1 + 1 := ⟨_, rfl⟩
                        first | have tx_77 := ti_add ex_77 (by omega) (by omega) | skip
                        refine lv_iinc (v := x_77) (lv' := [(3, .int x_77), (2, .int x_51), (5, .int x_17), (4, .int x_14), (0, .ref h), (1, .ref a)]) G0.1 G0.2.1 dX3_worth_223 hl (k := 3) rfl (show _ + (1 : Int32) = _ from ex_77.symm) (by decide) rfl (fun ls hl => ?_)
                        refine lv_goto (tgt := 4) G0.1 G0.2.1 dX3_worth_226 (by decide) ?_
                        exact ih_4 ((2147483647 - x_77.toInt).toNat) (by omega) x_77 x_51 L_j4 f_72 _ _ ls rfl ⟨by omega, by omega⟩ ⟨by omega, by omega⟩ hWF hRP hKP hw (lv_sub hl [0, 1, 4, 5] rfl)
                      · skip
                        have tc_50 := ti_eq c_50
                        refine lv_aload_n G0.1 G0.2.1 dX3_worth_165 rfl (lv_at hl 4 rfl) ?_
                        refine py_get (C := RX3) (T := TX3) (N := 3) (k := 1) (v := .ref (G.2 h 1)) G0 hw in_X3_worth_X3 rfl hr_7 (by decide) (by decide +kernel) rfl dX3_worth_166 ?_
                        refine lv_iload_n G0.1 G0.2.1 dX3_worth_169 rfl (lv_at hl 3 rfl) ?_
                        refine lv_iconst (v := 1) G0.1 G0.2.1 dX3_worth_170 (by decide) ?_
                        refine lv_isub G0.1 G0.2.1 dX3_worth_171 ?_
                        refine lv_topi (fun x_78 ex_78 => ?_)
                        first | have tx_78 := ti_sub ex_78 (by omega) (by omega) | skip
                        refine lv_iconst (v := 1) G0.1 G0.2.1 dX3_worth_172 (by decide) ?_
                        refine lv_aload_n G0.1 G0.2.1 dX3_worth_173 rfl (lv_at hl 4 rfl) ?_
                        refine py_get (C := RX3) (T := TX3) (N := 3) (k := 1) (v := .ref (G.2 h 1)) G0 hw in_X3_worth_X3 rfl hr_7 (by decide) (by decide +kernel) rfl dX3_worth_174 ?_
                        refine lv_iload_n G0.1 G0.2.1 dX3_worth_177 rfl (lv_at hl 3 rfl) ?_
                        refine lv_iconst (v := 1) G0.1 G0.2.1 dX3_worth_178 (by decide) ?_
                        refine lv_isub G0.1 G0.2.1 dX3_worth_179 ?_
                        refine lv_topi (fun x_79 ex_79 => ?_)
                        first | have tx_79 := ti_sub ex_79 (by omega) (by omega) | skip
                        obtain ⟨g_80, ha_81, hi_82⟩ := wf_arr (n := 32) (lo := (-2147483648)) (hi := 2147483647) hWF t_4 (by decide) (fun _ => rfl)
                        have rg_83 : vp_in x_79 32 := ti_in (by omega) (by omega)
                        refine py_iald G0 hw ha_81 rg_83 dX3_worth_180 ?_
                        refine lv_topi (fun x_84 ex_84 => ?_)
                        have bx_84 := wf_free x_84
                        refine lv_isub G0.1 G0.2.1 dX3_worth_181 ?_
                        refine lv_topi (fun x_85 ex_85 => ?_)
                        first | have tx_85 := ti_sub ex_85 (by omega) (by omega) | skip
                        have rg_86 : vp_in x_78 32 := ti_in (by omega) (by omega)
                        refine py_iast G0 hw ha_81 rg_86 dX3_worth_182 (fun f_87 H_88 locs h_89 x_90 hw => ?_)
                        have hKP := hKP.upd hWF x_90 t_4 (Or.inl (by decide))
                        have hRP := hRP.trans (rp_upd hG hWF x_90 ha_81.2 h_89.2 (rp_code hG t_4 (by decide)) rfl)
                        have hi_91 := wf_inu (k := (x_78 : Int32).toNatClampNeg) (x := x_85) hi_82 (wf_free x_85).1 (wf_free x_85).2
                        have hWF := wf_upd hWF h_89 x_90 (by rw [t_4]; exact ⟨_, rfl, hi_91⟩)
                        have hr_7 := hr_7.ext x_90 (py_ne_arr hr_7 ha_81)
                        have ha_10 := ha_10.ext x_90 (wf_ne t_3 t_4 (by decide))
                        refine lv_goto (tgt := 223) G0.1 G0.2.1 dX3_worth_183 (by decide) ?_
                        obtain ⟨x_92, ex_92⟩ : ∃ y : Int32, y = v_1 + 1 := ⟨_, rfl⟩
                        first | have tx_92 := ti_add ex_92 (by omega) (by omega) | skip
                        refine lv_iinc (v := x_92) (lv' := [(3, .int x_92), (5, .int x_17), (4, .int x_14), (2, .int v_2), (0, .ref h), (1, .ref a)]) G0.1 G0.2.1 dX3_worth_223 hl (k := 2) rfl (show _ + (1 : Int32) = _ from ex_92.symm) (by decide) rfl (fun ls hl => ?_)
                        refine lv_goto (tgt := 4) G0.1 G0.2.1 dX3_worth_226 (by decide) ?_
                        exact ih_4 ((2147483647 - x_92.toInt).toNat) (by omega) x_92 v_2 L_j4 f_87 _ _ ls rfl ⟨by omega, by omega⟩ ⟨by omega, by omega⟩ hWF hRP hKP hw (lv_sub hl [0, 3, 4, 5] rfl)
                    · skip
                      have tc_49 := ti_eq c_49
                      obtain ⟨x_93, ex_93⟩ : ∃ y : Int32, y = v_2 + (-1) := ⟨_, rfl⟩
                      first | have tx_93 := ti_add ex_93 (by omega) (by omega) | skip
                      refine lv_iinc (v := x_93) (lv' := [(2, .int x_93), (5, .int x_17), (4, .int x_14), (3, .int v_1), (0, .ref h), (1, .ref a)]) G0.1 G0.2.1 dX3_worth_130 hl (k := 3) rfl (show _ + ((-1) : Int32) = _ from ex_93.symm) (by decide) rfl (fun ls hl => ?_)
                      refine lv_aload_n G0.1 G0.2.1 dX3_worth_133 rfl (lv_at hl 4 rfl) ?_
                      refine py_get (C := RX3) (T := TX3) (N := 3) (k := 1) (v := .ref (G.2 h 1)) G0 hw in_X3_worth_X3 rfl hr_7 (by decide) (by decide +kernel) rfl dX3_worth_134 ?_
                      refine lv_iload_n G0.1 G0.2.1 dX3_worth_137 rfl (lv_at hl 0 rfl) ?_
                      obtain ⟨g_94, ha_95, hi_96⟩ := wf_arr (n := 32) (lo := (-2147483648)) (hi := 2147483647) hWF t_4 (by decide) (fun _ => rfl)
                      have rg_97 : vp_in x_93 32 := ti_in (by omega) (by omega)
                      refine py_iald G0 hw ha_95 rg_97 dX3_worth_138 ?_
                      refine lv_topi (fun x_98 ex_98 => ?_)
                      have bx_98 := wf_free x_98
                      refine lv_if_ne (tgt := 153) G0.1 G0.2.1 dX3_worth_139 (by decide) (fun c_99 => ?_) (fun c_99 => ?_)
                      · skip
                        have tc_99 := ti_ne c_99
                        refine lv_iload_n G0.1 G0.2.1 dX3_worth_153 rfl (lv_at hl 3 rfl) ?_
                        refine lv_istore_n (lv' := [(3, .int v_1), (2, .int x_93), (5, .int x_17), (4, .int x_14), (0, .ref h), (1, .ref a)]) G0.1 G0.2.1 dX3_worth_154 rfl hl (by decide) rfl (fun ls hl => ?_)
                        refine lv_goto (tgt := 223) G0.1 G0.2.1 dX3_worth_155 (by decide) ?_
                        obtain ⟨x_100, ex_100⟩ : ∃ y : Int32, y = v_1 + 1 := ⟨_, rfl⟩
                        first | have tx_100 := ti_add ex_100 (by omega) (by omega) | skip
                        refine lv_iinc (v := x_100) (lv' := [(3, .int x_100), (2, .int x_93), (5, .int x_17), (4, .int x_14), (0, .ref h), (1, .ref a)]) G0.1 G0.2.1 dX3_worth_223 hl (k := 0) rfl (show _ + (1 : Int32) = _ from ex_100.symm) (by decide) rfl (fun ls hl => ?_)
                        refine lv_goto (tgt := 4) G0.1 G0.2.1 dX3_worth_226 (by decide) ?_
                        exact ih_4 ((2147483647 - x_100.toInt).toNat) (by omega) x_100 x_93 L_j4 f_j4 _ _ ls rfl ⟨by omega, by omega⟩ ⟨by omega, by omega⟩ hWF hRP hKP hw (lv_sub hl [0, 1, 4, 5] rfl)
                      · skip
                        have tc_99 := ti_eq c_99
                        refine lv_iload_n G0.1 G0.2.1 dX3_worth_142 rfl (lv_at hl 3 rfl) ?_
                        refine lv_iload G0.1 G0.2.1 dX3_worth_143 (lv_at hl 1 rfl) ?_
                        refine lv_iconst (v := 1) G0.1 G0.2.1 dX3_worth_145 (by decide) ?_
                        refine lv_isub G0.1 G0.2.1 dX3_worth_146 ?_
                        refine lv_topi (fun x_101 ex_101 => ?_)
                        first | have tx_101 := ti_sub ex_101 (by omega) (by omega) | skip
                        refine va_mmax G0.1 G0.2.1 (by rw [G0.2.2.1, hl.1]) G0.2.2.2.1 (G0.2.2.2.2 (Cond.methodLink RX3 33 Lib.Math.max.name) (by decide +kernel)) (G0.2.2.2.2 (Cond.static Lib.Math.max.name) (by decide +kernel)) (G0.2.2.2.2 (Cond.initialized "java/lang/Math") (by decide +kernel)) (G0.2.2.2.2 (Cond.code Lib.Math.max.name Lib.Math.max.code 2 (some .int)) (by decide +kernel)) (Nat.le_of_ble_eq_true rfl) (Nat.le_of_ble_eq_true rfl) (Nat.le_of_ble_eq_true rfl) (Nat.le_of_ble_eq_true rfl) dX3_worth_147 ?_
                        refine lv_topi (fun x_102 ex_102 => ?_)
                        have tx_102 := ti_max ex_102
                        refine lv_goto (tgt := 154) G0.1 G0.2.1 dX3_worth_150 (by decide) ?_
                        refine lv_istore_n (lv' := [(3, .int x_102), (2, .int x_93), (5, .int x_17), (4, .int x_14), (0, .ref h), (1, .ref a)]) G0.1 G0.2.1 dX3_worth_154 rfl hl (by decide) rfl (fun ls hl => ?_)
                        refine lv_goto (tgt := 223) G0.1 G0.2.1 dX3_worth_155 (by decide) ?_
                        obtain ⟨x_103, ex_103⟩ : ∃ y : Int32, y = x_102 + 1 := ⟨_, rfl⟩
                        first | have tx_103 := ti_add ex_103 (by omega) (by omega) | skip
                        refine lv_iinc (v := x_103) (lv' := [(3, .int x_103), (2, .int x_93), (5, .int x_17), (4, .int x_14), (0, .ref h), (1, .ref a)]) G0.1 G0.2.1 dX3_worth_223 hl (k := 0) rfl (show _ + (1 : Int32) = _ from ex_103.symm) (by decide) rfl (fun ls hl => ?_)
                        refine lv_goto (tgt := 4) G0.1 G0.2.1 dX3_worth_226 (by decide) ?_
                        exact ih_4 ((2147483647 - x_103.toInt).toNat) (by omega) x_103 x_93 L_j4 f_j4 _ _ ls rfl ⟨by omega, by omega⟩ ⟨by omega, by omega⟩ hWF hRP hKP hw (lv_sub hl [0, 1, 4, 5] rfl)
                  · skip
                    have tc_48 := ti_eq c_48
                    refine lv_aload_n G0.1 G0.2.1 dX3_worth_114 rfl (lv_at hl 4 rfl) ?_
                    refine py_get (C := RX3) (T := TX3) (N := 3) (k := 1) (v := .ref (G.2 h 1)) G0 hw in_X3_worth_X3 rfl hr_7 (by decide) (by decide +kernel) rfl dX3_worth_115 ?_
                    refine lv_iload_n G0.1 G0.2.1 dX3_worth_118 rfl (lv_at hl 3 rfl) ?_
                    refine lv_iconst (v := 1) G0.1 G0.2.1 dX3_worth_119 (by decide) ?_
                    refine lv_isub G0.1 G0.2.1 dX3_worth_120 ?_
                    refine lv_topi (fun x_104 ex_104 => ?_)
                    first | have tx_104 := ti_sub ex_104 (by omega) (by omega) | skip
                    obtain ⟨g_105, ha_106, hi_107⟩ := wf_arr (n := 32) (lo := (-2147483648)) (hi := 2147483647) hWF t_4 (by decide) (fun _ => rfl)
                    have rg_108 : vp_in x_104 32 := ti_in (by omega) (by omega)
                    refine py_iald G0 hw ha_106 rg_108 dX3_worth_121 ?_
                    refine lv_topi (fun x_109 ex_109 => ?_)
                    have bx_109 := wf_free x_109
                    exact py_iret G0 hr rfl hlk hw ⟨hWF, hRP, hKP⟩ dX3_worth_122
                · skip
                  have tc_47 := ti_eq c_47
                  refine lv_aload_n G0.1 G0.2.1 dX3_worth_79 rfl (lv_at hl 4 rfl) ?_
                  refine py_get (C := RX3) (T := TX3) (N := 3) (k := 1) (v := .ref (G.2 h 1)) G0 hw in_X3_worth_X3 rfl hr_7 (by decide) (by decide +kernel) rfl dX3_worth_80 ?_
                  refine lv_iload_n G0.1 G0.2.1 dX3_worth_83 rfl (lv_at hl 3 rfl) ?_
                  refine lv_iload G0.1 G0.2.1 dX3_worth_84 (lv_at hl 1 rfl) ?_
                  refine lv_bipush (v := 48) G0.1 G0.2.1 dX3_worth_86 (by decide) ?_
                  have jn_100 : ∀ (v_110 : Int32) (H_j100 : Heap) (locs : List Loc) (ls : Array Slot), py_W E (va_A (va_pl L f) s.heap.size) s L_j4 f_j4 H_j100 locs → lv_has ls 6 [(5, .int x_17), (4, .int x_14), (3, .int v_1), (2, .int v_2), (0, .ref h), (1, .ref a)] → W p l e (headSpec w_X3_worth ({ frames := 1, cells := 0, slots := 0, locals := 24 })).room s m ([.ref h, .ref a] : List Value).toArray below meth c H_j100 locs 0 0 (MQ below (py_Qi E L f s.heap.size (fun _ L1 f1 => WF E G L1 f1 ∧ RP E G f f1 ∧ KP G [21] false f f1)) ([.ref h, .ref a] : List Value).toArray s 0 0 (va_A (va_pl L f) s.heap.size)) (F0 m 100 ls [.int v_110, .int v_2, .ref (G.2 h 1)]) := by
                    intro v_110 H_j100 locs ls hw hl
                    obtain ⟨g_111, ha_112, hi_113⟩ := wf_arr (n := 32) (lo := (-2147483648)) (hi := 2147483647) hWF t_4 (by decide) (fun _ => rfl)
                    have rg_114 : vp_in v_2 32 := ti_in (by omega) (by omega)
                    refine py_iast G0 hw ha_112 rg_114 dX3_worth_100 (fun f_115 H_116 locs h_117 x_118 hw => ?_)
                    have hKP := hKP.upd hWF x_118 t_4 (Or.inl (by decide))
                    have hRP := hRP.trans (rp_upd hG hWF x_118 ha_112.2 h_117.2 (rp_code hG t_4 (by decide)) rfl)
                    have hi_119 := wf_inu (k := (v_2 : Int32).toNatClampNeg) (x := v_110) hi_113 (wf_free v_110).1 (wf_free v_110).2
                    have hWF := wf_upd hWF h_117 x_118 (by rw [t_4]; exact ⟨_, rfl, hi_119⟩)
                    have hr_7 := hr_7.ext x_118 (py_ne_arr hr_7 ha_112)
                    have ha_10 := ha_10.ext x_118 (wf_ne t_3 t_4 (by decide))
                    obtain ⟨x_120, ex_120⟩ : ∃ y : Int32, y = v_2 + 1 := ⟨_, rfl⟩
                    first | have tx_120 := ti_add ex_120 (by omega) (by omega) | skip
                    refine lv_iinc (v := x_120) (lv' := [(2, .int x_120), (5, .int x_17), (4, .int x_14), (3, .int v_1), (0, .ref h), (1, .ref a)]) G0.1 G0.2.1 dX3_worth_101 hl (k := 3) rfl (show _ + (1 : Int32) = _ from ex_120.symm) (by decide) rfl (fun ls hl => ?_)
                    refine lv_goto (tgt := 223) G0.1 G0.2.1 dX3_worth_104 (by decide) ?_
                    obtain ⟨x_121, ex_121⟩ : ∃ y : Int32, y = v_1 + 1 := ⟨_, rfl⟩
                    first | have tx_121 := ti_add ex_121 (by omega) (by omega) | skip
                    refine lv_iinc (v := x_121) (lv' := [(3, .int x_121), (2, .int x_120), (5, .int x_17), (4, .int x_14), (0, .ref h), (1, .ref a)]) G0.1 G0.2.1 dX3_worth_223 hl (k := 3) rfl (show _ + (1 : Int32) = _ from ex_121.symm) (by decide) rfl (fun ls hl => ?_)
                    refine lv_goto (tgt := 4) G0.1 G0.2.1 dX3_worth_226 (by decide) ?_
                    exact ih_4 ((2147483647 - x_121.toInt).toNat) (by omega) x_121 x_120 L_j4 f_115 _ _ ls rfl ⟨by omega, by omega⟩ ⟨by omega, by omega⟩ hWF hRP hKP hw (lv_sub hl [0, 1, 4, 5] rfl)
                  refine lv_icmp_ne (tgt := 96) G0.1 G0.2.1 dX3_worth_88 (by decide) (fun c_122 => ?_) (fun c_122 => ?_)
                  · skip
                    have tc_122 := ti_ne c_122
                    refine lv_aload_n G0.1 G0.2.1 dX3_worth_96 rfl (lv_at hl 5 rfl) ?_
                    refine lv_iload G0.1 G0.2.1 dX3_worth_97 (lv_at hl 0 rfl) ?_
                    obtain ⟨g_123, ha_124, hi_125⟩ := wf_arr (n := 6) (lo := (-2147483648)) (hi := 2147483647) hWF Ta (by decide) (fun _ => rfl)
                    have rg_126 : vp_in x_17 6 := ti_in (by omega) (by omega)
                    refine py_iald G0 hw ha_124 rg_126 dX3_worth_99 ?_
                    refine lv_topi (fun x_127 ex_127 => ?_)
                    have bx_127 := wf_free x_127
                    exact jn_100 x_127 _ _ ls hw (lv_sub hl [0, 1, 2, 3, 4, 5] rfl)
                  · skip
                    have tc_122 := ti_eq c_122
                    refine lv_iload G0.1 G0.2.1 dX3_worth_91 (lv_at hl 0 rfl) ?_
                    refine lv_goto (tgt := 100) G0.1 G0.2.1 dX3_worth_93 (by decide) ?_
                    exact jn_100 x_17 _ _ ls hw (lv_sub hl [0, 1, 2, 3, 4, 5] rfl)
            · skip
              have tc_27 := ti_eq c_27
              refine lv_iload G0.1 G0.2.1 dX3_worth_56 (lv_at hl 0 rfl) ?_
              refine lv_aload_n G0.1 G0.2.1 dX3_worth_58 rfl (lv_at hl 5 rfl) ?_
              obtain ⟨g_128, ha_129, hi_130⟩ := wf_arr (n := 6) (lo := (-2147483648)) (hi := 2147483647) hWF Ta (by decide) (fun _ => rfl)
              refine py_alen (v := 6) G0 hw ha_129 rfl dX3_worth_59 ?_
              refine lv_icmp_lt (tgt := 65) G0.1 G0.2.1 dX3_worth_60 (by decide) (fun c_131 => ?_) (fun c_131 => ?_)
              · skip
                have tc_131 := ti_lt c_131
                refine lv_iload G0.1 G0.2.1 dX3_worth_65 (lv_at hl 1 rfl) ?_
                refine lv_bipush (v := 48) G0.1 G0.2.1 dX3_worth_67 (by decide) ?_
                refine lv_icmp_eq (tgt := 79) G0.1 G0.2.1 dX3_worth_69 (by decide) (fun c_132 => ?_) (fun c_132 => ?_)
                · skip
                  have tc_132 := ti_eq c_132
                  refine lv_aload_n G0.1 G0.2.1 dX3_worth_79 rfl (lv_at hl 4 rfl) ?_
                  refine py_get (C := RX3) (T := TX3) (N := 3) (k := 1) (v := .ref (G.2 h 1)) G0 hw in_X3_worth_X3 rfl hr_7 (by decide) (by decide +kernel) rfl dX3_worth_80 ?_
                  refine lv_iload_n G0.1 G0.2.1 dX3_worth_83 rfl (lv_at hl 3 rfl) ?_
                  refine lv_iload G0.1 G0.2.1 dX3_worth_84 (lv_at hl 1 rfl) ?_
                  refine lv_bipush (v := 48) G0.1 G0.2.1 dX3_worth_86 (by decide) ?_
                  have jn_100 : ∀ (v_133 : Int32) (H_j100 : Heap) (locs : List Loc) (ls : Array Slot), py_W E (va_A (va_pl L f) s.heap.size) s L_j4 f_j4 H_j100 locs → lv_has ls 6 [(5, .int x_17), (4, .int x_14), (3, .int v_1), (2, .int v_2), (0, .ref h), (1, .ref a)] → W p l e (headSpec w_X3_worth ({ frames := 1, cells := 0, slots := 0, locals := 24 })).room s m ([.ref h, .ref a] : List Value).toArray below meth c H_j100 locs 0 0 (MQ below (py_Qi E L f s.heap.size (fun _ L1 f1 => WF E G L1 f1 ∧ RP E G f f1 ∧ KP G [21] false f f1)) ([.ref h, .ref a] : List Value).toArray s 0 0 (va_A (va_pl L f) s.heap.size)) (F0 m 100 ls [.int v_133, .int v_2, .ref (G.2 h 1)]) := by
                    intro v_133 H_j100 locs ls hw hl
                    obtain ⟨g_134, ha_135, hi_136⟩ := wf_arr (n := 32) (lo := (-2147483648)) (hi := 2147483647) hWF t_4 (by decide) (fun _ => rfl)
                    have rg_137 : vp_in v_2 32 := ti_in (by omega) (by omega)
                    refine py_iast G0 hw ha_135 rg_137 dX3_worth_100 (fun f_138 H_139 locs h_140 x_141 hw => ?_)
                    have hKP := hKP.upd hWF x_141 t_4 (Or.inl (by decide))
                    have hRP := hRP.trans (rp_upd hG hWF x_141 ha_135.2 h_140.2 (rp_code hG t_4 (by decide)) rfl)
                    have hi_142 := wf_inu (k := (v_2 : Int32).toNatClampNeg) (x := v_133) hi_136 (wf_free v_133).1 (wf_free v_133).2
                    have hWF := wf_upd hWF h_140 x_141 (by rw [t_4]; exact ⟨_, rfl, hi_142⟩)
                    have hr_7 := hr_7.ext x_141 (py_ne_arr hr_7 ha_135)
                    have ha_10 := ha_10.ext x_141 (wf_ne t_3 t_4 (by decide))
                    have ha_129 := ha_129.ext x_141 (wf_ne Ta t_4 (by decide))
                    obtain ⟨x_143, ex_143⟩ : ∃ y : Int32, y = v_2 + 1 := ⟨_, rfl⟩
                    first | have tx_143 := ti_add ex_143 (by omega) (by omega) | skip
                    refine lv_iinc (v := x_143) (lv' := [(2, .int x_143), (5, .int x_17), (4, .int x_14), (3, .int v_1), (0, .ref h), (1, .ref a)]) G0.1 G0.2.1 dX3_worth_101 hl (k := 3) rfl (show _ + (1 : Int32) = _ from ex_143.symm) (by decide) rfl (fun ls hl => ?_)
                    refine lv_goto (tgt := 223) G0.1 G0.2.1 dX3_worth_104 (by decide) ?_
                    obtain ⟨x_144, ex_144⟩ : ∃ y : Int32, y = v_1 + 1 := ⟨_, rfl⟩
                    first | have tx_144 := ti_add ex_144 (by omega) (by omega) | skip
                    refine lv_iinc (v := x_144) (lv' := [(3, .int x_144), (2, .int x_143), (5, .int x_17), (4, .int x_14), (0, .ref h), (1, .ref a)]) G0.1 G0.2.1 dX3_worth_223 hl (k := 3) rfl (show _ + (1 : Int32) = _ from ex_144.symm) (by decide) rfl (fun ls hl => ?_)
                    refine lv_goto (tgt := 4) G0.1 G0.2.1 dX3_worth_226 (by decide) ?_
                    exact ih_4 ((2147483647 - x_144.toInt).toNat) (by omega) x_144 x_143 L_j4 f_138 _ _ ls rfl ⟨by omega, by omega⟩ ⟨by omega, by omega⟩ hWF hRP hKP hw (lv_sub hl [0, 1, 4, 5] rfl)
                  refine lv_icmp_ne (tgt := 96) G0.1 G0.2.1 dX3_worth_88 (by decide) (fun c_145 => ?_) (fun c_145 => ?_)
                  · skip
                    have tc_145 := ti_ne c_145
                    refine lv_aload_n G0.1 G0.2.1 dX3_worth_96 rfl (lv_at hl 5 rfl) ?_
                    refine lv_iload G0.1 G0.2.1 dX3_worth_97 (lv_at hl 0 rfl) ?_
                    have rg_146 : vp_in x_17 6 := ti_in (by omega) (by omega)
                    refine py_iald G0 hw ha_129 rg_146 dX3_worth_99 ?_
                    refine lv_topi (fun x_147 ex_147 => ?_)
                    have bx_147 := wf_free x_147
                    exact jn_100 x_147 _ _ ls hw (lv_sub hl [0, 1, 2, 3, 4, 5] rfl)
                  · skip
                    have tc_145 := ti_eq c_145
                    refine lv_iload G0.1 G0.2.1 dX3_worth_91 (lv_at hl 0 rfl) ?_
                    refine lv_goto (tgt := 100) G0.1 G0.2.1 dX3_worth_93 (by decide) ?_
                    exact jn_100 x_17 _ _ ls hw (lv_sub hl [0, 1, 2, 3, 4, 5] rfl)
                · skip
                  have tc_132 := ti_ne c_132
                  refine lv_iload G0.1 G0.2.1 dX3_worth_72 (lv_at hl 1 rfl) ?_
                  refine lv_bipush (v := 121) G0.1 G0.2.1 dX3_worth_74 (by decide) ?_
                  refine lv_icmp_ne (tgt := 107) G0.1 G0.2.1 dX3_worth_76 (by decide) (fun c_148 => ?_) (fun c_148 => ?_)
                  · skip
                    have tc_148 := ti_ne c_148
                    refine lv_iload G0.1 G0.2.1 dX3_worth_107 (lv_at hl 1 rfl) ?_
                    refine lv_bipush (v := 59) G0.1 G0.2.1 dX3_worth_109 (by decide) ?_
                    refine lv_icmp_ne (tgt := 123) G0.1 G0.2.1 dX3_worth_111 (by decide) (fun c_149 => ?_) (fun c_149 => ?_)
                    · skip
                      have tc_149 := ti_ne c_149
                      refine lv_iload G0.1 G0.2.1 dX3_worth_123 (lv_at hl 1 rfl) ?_
                      refine lv_bipush (v := 63) G0.1 G0.2.1 dX3_worth_125 (by decide) ?_
                      refine lv_icmp_ne (tgt := 158) G0.1 G0.2.1 dX3_worth_127 (by decide) (fun c_150 => ?_) (fun c_150 => ?_)
                      · skip
                        have tc_150 := ti_ne c_150
                        refine lv_iload G0.1 G0.2.1 dX3_worth_158 (lv_at hl 1 rfl) ?_
                        refine lv_bipush (v := 33) G0.1 G0.2.1 dX3_worth_160 (by decide) ?_
                        refine lv_icmp_ne (tgt := 186) G0.1 G0.2.1 dX3_worth_162 (by decide) (fun c_151 => ?_) (fun c_151 => ?_)
                        · skip
                          have tc_151 := ti_ne c_151
                          obtain ⟨x_152, ex_152⟩ : ∃ y : Int32, y = v_2 + (-1) := ⟨_, rfl⟩
                          first | have tx_152 := ti_add ex_152 (by omega) (by omega) | skip
                          refine lv_iinc (v := x_152) (lv' := [(2, .int x_152), (5, .int x_17), (4, .int x_14), (3, .int v_1), (0, .ref h), (1, .ref a)]) G0.1 G0.2.1 dX3_worth_186 hl (k := 3) rfl (show _ + ((-1) : Int32) = _ from ex_152.symm) (by decide) rfl (fun ls hl => ?_)
                          refine lv_aload_n G0.1 G0.2.1 dX3_worth_189 rfl (lv_at hl 4 rfl) ?_
                          refine py_get (C := RX3) (T := TX3) (N := 3) (k := 1) (v := .ref (G.2 h 1)) G0 hw in_X3_worth_X3 rfl hr_7 (by decide) (by decide +kernel) rfl dX3_worth_190 ?_
                          refine lv_iload_n G0.1 G0.2.1 dX3_worth_193 rfl (lv_at hl 0 rfl) ?_
                          refine lv_iconst (v := 1) G0.1 G0.2.1 dX3_worth_194 (by decide) ?_
                          refine lv_isub G0.1 G0.2.1 dX3_worth_195 ?_
                          refine lv_topi (fun x_153 ex_153 => ?_)
                          first | have tx_153 := ti_sub ex_153 (by omega) (by omega) | skip
                          refine lv_iload G0.1 G0.2.1 dX3_worth_196 (lv_at hl 2 rfl) ?_
                          refine lv_aload_n G0.1 G0.2.1 dX3_worth_198 rfl (lv_at hl 4 rfl) ?_
                          refine py_get (C := RX3) (T := TX3) (N := 3) (k := 1) (v := .ref (G.2 h 1)) G0 hw in_X3_worth_X3 rfl hr_7 (by decide) (by decide +kernel) rfl dX3_worth_199 ?_
                          refine lv_iload_n G0.1 G0.2.1 dX3_worth_202 rfl (lv_at hl 0 rfl) ?_
                          refine lv_iconst (v := 1) G0.1 G0.2.1 dX3_worth_203 (by decide) ?_
                          refine lv_isub G0.1 G0.2.1 dX3_worth_204 ?_
                          refine lv_topi (fun x_154 ex_154 => ?_)
                          first | have tx_154 := ti_sub ex_154 (by omega) (by omega) | skip
                          obtain ⟨g_155, ha_156, hi_157⟩ := wf_arr (n := 32) (lo := (-2147483648)) (hi := 2147483647) hWF t_4 (by decide) (fun _ => rfl)
                          have rg_158 : vp_in x_154 32 := ti_in (by omega) (by omega)
                          refine py_iald G0 hw ha_156 rg_158 dX3_worth_205 ?_
                          refine lv_topi (fun x_159 ex_159 => ?_)
                          have bx_159 := wf_free x_159
                          refine lv_i2l (v := x_159.toInt64) G0.1 G0.2.1 dX3_worth_206 rfl ?_
                          refine lv_aload_n G0.1 G0.2.1 dX3_worth_207 rfl (lv_at hl 4 rfl) ?_
                          refine py_get (C := RX3) (T := TX3) (N := 3) (k := 1) (v := .ref (G.2 h 1)) G0 hw in_X3_worth_X3 rfl hr_7 (by decide) (by decide +kernel) rfl dX3_worth_208 ?_
                          refine lv_iload_n G0.1 G0.2.1 dX3_worth_211 rfl (lv_at hl 0 rfl) ?_
                          have rg_160 : vp_in x_152 32 := ti_in (by omega) (by omega)
                          refine py_iald G0 hw ha_156 rg_160 dX3_worth_212 ?_
                          refine lv_topi (fun x_161 ex_161 => ?_)
                          have bx_161 := wf_free x_161
                          refine lv_i2l (v := x_161.toInt64) G0.1 G0.2.1 dX3_worth_213 rfl ?_
                          refine py_calll hw (va_runS (As := [.int x_14, .long (x_159.toInt64), .long (x_161.toInt64)]) (rest := [.int x_153, .ref (G.2 h 1)]) G0 (c_X3_joined l E G L_j4 f_j4 H_20.size x_14 (x_159.toInt64) (x_161.toInt64) hG hWF) (va_cwS 3 G0.2.2.2.2 g_X3_worth_X3_joined_39 rfl rfl rfl (by decide +kernel) ⟨(Nat.le_of_ble_eq_true rfl), (Nat.le_of_ble_eq_true rfl)⟩) (py_preS hw) rfl rfl hl.1 rfl (lv_room (Nat.le_of_ble_eq_true rfl)) dX3_worth_214 ⟨(Nat.le_of_ble_eq_true rfl), (Nat.le_of_ble_eq_true rfl)⟩) (fun r_166 L_162 f_163 H_164 locs hp_165 hw => ?_)
                          obtain ⟨rfl, rfl⟩ := hp_165
                          refine lv_ldc (v := 1000000) G0.1 G0.2.1 G0.2.2.2.1 (G0.2.2.2.2 (Cond.constant RX3 43 (1000000)) (by decide +kernel)) dX3_worth_217 ?_
                          refine py_calli hw (va_runS (As := [.long r_166, .int 1000000]) (rest := [.int x_153, .ref (G.2 h 1)]) G0 (c_X3_held l E G L_j4 f_j4 H_164.size r_166 1000000 hG hWF) (va_cwS 2 G0.2.2.2.2 g_X3_worth_X3_held_44 rfl rfl rfl (by decide +kernel) ⟨(Nat.le_of_ble_eq_true rfl), (Nat.le_of_ble_eq_true rfl)⟩) (py_preS hw) rfl rfl hl.1 rfl (lv_room (Nat.le_of_ble_eq_true rfl)) dX3_worth_219 ⟨(Nat.le_of_ble_eq_true rfl), (Nat.le_of_ble_eq_true rfl)⟩) (fun r_171 L_167 f_168 H_169 locs hp_170 hw => ?_)
                          obtain ⟨rfl, rfl⟩ := hp_170
                          have br_171 := wf_free r_171
                          have rg_172 : vp_in x_153 32 := ti_in (by omega) (by omega)
                          refine py_iast G0 hw ha_156 rg_172 dX3_worth_222 (fun f_173 H_174 locs h_175 x_176 hw => ?_)
                          have hKP := hKP.upd hWF x_176 t_4 (Or.inl (by decide))
                          have hRP := hRP.trans (rp_upd hG hWF x_176 ha_156.2 h_175.2 (rp_code hG t_4 (by decide)) rfl)
                          have hi_177 := wf_inu (k := (x_153 : Int32).toNatClampNeg) (x := r_171) hi_157 (wf_free r_171).1 (wf_free r_171).2
                          have hWF := wf_upd hWF h_175 x_176 (by rw [t_4]; exact ⟨_, rfl, hi_177⟩)
                          have hr_7 := hr_7.ext x_176 (py_ne_arr hr_7 ha_156)
                          have ha_10 := ha_10.ext x_176 (wf_ne t_3 t_4 (by decide))
                          have ha_129 := ha_129.ext x_176 (wf_ne Ta t_4 (by decide))
                          obtain ⟨x_178, ex_178⟩ : ∃ y : Int32, y = v_1 + 1 := ⟨_, rfl⟩
                          first | have tx_178 := ti_add ex_178 (by omega) (by omega) | skip
                          refine lv_iinc (v := x_178) (lv' := [(3, .int x_178), (2, .int x_152), (5, .int x_17), (4, .int x_14), (0, .ref h), (1, .ref a)]) G0.1 G0.2.1 dX3_worth_223 hl (k := 3) rfl (show _ + (1 : Int32) = _ from ex_178.symm) (by decide) rfl (fun ls hl => ?_)
                          refine lv_goto (tgt := 4) G0.1 G0.2.1 dX3_worth_226 (by decide) ?_
                          exact ih_4 ((2147483647 - x_178.toInt).toNat) (by omega) x_178 x_152 L_j4 f_173 _ _ ls rfl ⟨by omega, by omega⟩ ⟨by omega, by omega⟩ hWF hRP hKP hw (lv_sub hl [0, 1, 4, 5] rfl)
                        · skip
                          have tc_151 := ti_eq c_151
                          refine lv_aload_n G0.1 G0.2.1 dX3_worth_165 rfl (lv_at hl 4 rfl) ?_
                          refine py_get (C := RX3) (T := TX3) (N := 3) (k := 1) (v := .ref (G.2 h 1)) G0 hw in_X3_worth_X3 rfl hr_7 (by decide) (by decide +kernel) rfl dX3_worth_166 ?_
                          refine lv_iload_n G0.1 G0.2.1 dX3_worth_169 rfl (lv_at hl 3 rfl) ?_
                          refine lv_iconst (v := 1) G0.1 G0.2.1 dX3_worth_170 (by decide) ?_
                          refine lv_isub G0.1 G0.2.1 dX3_worth_171 ?_
                          refine lv_topi (fun x_179 ex_179 => ?_)
                          first | have tx_179 := ti_sub ex_179 (by omega) (by omega) | skip
                          refine lv_iconst (v := 1) G0.1 G0.2.1 dX3_worth_172 (by decide) ?_
                          refine lv_aload_n G0.1 G0.2.1 dX3_worth_173 rfl (lv_at hl 4 rfl) ?_
                          refine py_get (C := RX3) (T := TX3) (N := 3) (k := 1) (v := .ref (G.2 h 1)) G0 hw in_X3_worth_X3 rfl hr_7 (by decide) (by decide +kernel) rfl dX3_worth_174 ?_
                          refine lv_iload_n G0.1 G0.2.1 dX3_worth_177 rfl (lv_at hl 3 rfl) ?_
                          refine lv_iconst (v := 1) G0.1 G0.2.1 dX3_worth_178 (by decide) ?_
                          refine lv_isub G0.1 G0.2.1 dX3_worth_179 ?_
                          refine lv_topi (fun x_180 ex_180 => ?_)
                          first | have tx_180 := ti_sub ex_180 (by omega) (by omega) | skip
                          obtain ⟨g_181, ha_182, hi_183⟩ := wf_arr (n := 32) (lo := (-2147483648)) (hi := 2147483647) hWF t_4 (by decide) (fun _ => rfl)
                          have rg_184 : vp_in x_180 32 := ti_in (by omega) (by omega)
                          refine py_iald G0 hw ha_182 rg_184 dX3_worth_180 ?_
                          refine lv_topi (fun x_185 ex_185 => ?_)
                          have bx_185 := wf_free x_185
                          refine lv_isub G0.1 G0.2.1 dX3_worth_181 ?_
                          refine lv_topi (fun x_186 ex_186 => ?_)
                          first | have tx_186 := ti_sub ex_186 (by omega) (by omega) | skip
                          have rg_187 : vp_in x_179 32 := ti_in (by omega) (by omega)
                          refine py_iast G0 hw ha_182 rg_187 dX3_worth_182 (fun f_188 H_189 locs h_190 x_191 hw => ?_)
                          have hKP := hKP.upd hWF x_191 t_4 (Or.inl (by decide))
                          have hRP := hRP.trans (rp_upd hG hWF x_191 ha_182.2 h_190.2 (rp_code hG t_4 (by decide)) rfl)
                          have hi_192 := wf_inu (k := (x_179 : Int32).toNatClampNeg) (x := x_186) hi_183 (wf_free x_186).1 (wf_free x_186).2
                          have hWF := wf_upd hWF h_190 x_191 (by rw [t_4]; exact ⟨_, rfl, hi_192⟩)
                          have hr_7 := hr_7.ext x_191 (py_ne_arr hr_7 ha_182)
                          have ha_10 := ha_10.ext x_191 (wf_ne t_3 t_4 (by decide))
                          have ha_129 := ha_129.ext x_191 (wf_ne Ta t_4 (by decide))
                          refine lv_goto (tgt := 223) G0.1 G0.2.1 dX3_worth_183 (by decide) ?_
                          obtain ⟨x_193, ex_193⟩ : ∃ y : Int32, y = v_1 + 1 := ⟨_, rfl⟩
                          first | have tx_193 := ti_add ex_193 (by omega) (by omega) | skip
                          refine lv_iinc (v := x_193) (lv' := [(3, .int x_193), (5, .int x_17), (4, .int x_14), (2, .int v_2), (0, .ref h), (1, .ref a)]) G0.1 G0.2.1 dX3_worth_223 hl (k := 2) rfl (show _ + (1 : Int32) = _ from ex_193.symm) (by decide) rfl (fun ls hl => ?_)
                          refine lv_goto (tgt := 4) G0.1 G0.2.1 dX3_worth_226 (by decide) ?_
                          exact ih_4 ((2147483647 - x_193.toInt).toNat) (by omega) x_193 v_2 L_j4 f_188 _ _ ls rfl ⟨by omega, by omega⟩ ⟨by omega, by omega⟩ hWF hRP hKP hw (lv_sub hl [0, 3, 4, 5] rfl)
                      · skip
                        have tc_150 := ti_eq c_150
                        obtain ⟨x_194, ex_194⟩ : ∃ y : Int32, y = v_2 + (-1) := ⟨_, rfl⟩
                        first | have tx_194 := ti_add ex_194 (by omega) (by omega) | skip
                        refine lv_iinc (v := x_194) (lv' := [(2, .int x_194), (5, .int x_17), (4, .int x_14), (3, .int v_1), (0, .ref h), (1, .ref a)]) G0.1 G0.2.1 dX3_worth_130 hl (k := 3) rfl (show _ + ((-1) : Int32) = _ from ex_194.symm) (by decide) rfl (fun ls hl => ?_)
                        refine lv_aload_n G0.1 G0.2.1 dX3_worth_133 rfl (lv_at hl 4 rfl) ?_
                        refine py_get (C := RX3) (T := TX3) (N := 3) (k := 1) (v := .ref (G.2 h 1)) G0 hw in_X3_worth_X3 rfl hr_7 (by decide) (by decide +kernel) rfl dX3_worth_134 ?_
                        refine lv_iload_n G0.1 G0.2.1 dX3_worth_137 rfl (lv_at hl 0 rfl) ?_
                        obtain ⟨g_195, ha_196, hi_197⟩ := wf_arr (n := 32) (lo := (-2147483648)) (hi := 2147483647) hWF t_4 (by decide) (fun _ => rfl)
                        have rg_198 : vp_in x_194 32 := ti_in (by omega) (by omega)
                        refine py_iald G0 hw ha_196 rg_198 dX3_worth_138 ?_
                        refine lv_topi (fun x_199 ex_199 => ?_)
                        have bx_199 := wf_free x_199
                        refine lv_if_ne (tgt := 153) G0.1 G0.2.1 dX3_worth_139 (by decide) (fun c_200 => ?_) (fun c_200 => ?_)
                        · skip
                          have tc_200 := ti_ne c_200
                          refine lv_iload_n G0.1 G0.2.1 dX3_worth_153 rfl (lv_at hl 3 rfl) ?_
                          refine lv_istore_n (lv' := [(3, .int v_1), (2, .int x_194), (5, .int x_17), (4, .int x_14), (0, .ref h), (1, .ref a)]) G0.1 G0.2.1 dX3_worth_154 rfl hl (by decide) rfl (fun ls hl => ?_)
                          refine lv_goto (tgt := 223) G0.1 G0.2.1 dX3_worth_155 (by decide) ?_
                          obtain ⟨x_201, ex_201⟩ : ∃ y : Int32, y = v_1 + 1 := ⟨_, rfl⟩
                          first | have tx_201 := ti_add ex_201 (by omega) (by omega) | skip
                          refine lv_iinc (v := x_201) (lv' := [(3, .int x_201), (2, .int x_194), (5, .int x_17), (4, .int x_14), (0, .ref h), (1, .ref a)]) G0.1 G0.2.1 dX3_worth_223 hl (k := 0) rfl (show _ + (1 : Int32) = _ from ex_201.symm) (by decide) rfl (fun ls hl => ?_)
                          refine lv_goto (tgt := 4) G0.1 G0.2.1 dX3_worth_226 (by decide) ?_
                          exact ih_4 ((2147483647 - x_201.toInt).toNat) (by omega) x_201 x_194 L_j4 f_j4 _ _ ls rfl ⟨by omega, by omega⟩ ⟨by omega, by omega⟩ hWF hRP hKP hw (lv_sub hl [0, 1, 4, 5] rfl)
                        · skip
                          have tc_200 := ti_eq c_200
                          refine lv_iload_n G0.1 G0.2.1 dX3_worth_142 rfl (lv_at hl 3 rfl) ?_
                          refine lv_iload G0.1 G0.2.1 dX3_worth_143 (lv_at hl 1 rfl) ?_
                          refine lv_iconst (v := 1) G0.1 G0.2.1 dX3_worth_145 (by decide) ?_
                          refine lv_isub G0.1 G0.2.1 dX3_worth_146 ?_
                          refine lv_topi (fun x_202 ex_202 => ?_)
                          first | have tx_202 := ti_sub ex_202 (by omega) (by omega) | skip
                          refine va_mmax G0.1 G0.2.1 (by rw [G0.2.2.1, hl.1]) G0.2.2.2.1 (G0.2.2.2.2 (Cond.methodLink RX3 33 Lib.Math.max.name) (by decide +kernel)) (G0.2.2.2.2 (Cond.static Lib.Math.max.name) (by decide +kernel)) (G0.2.2.2.2 (Cond.initialized "java/lang/Math") (by decide +kernel)) (G0.2.2.2.2 (Cond.code Lib.Math.max.name Lib.Math.max.code 2 (some .int)) (by decide +kernel)) (Nat.le_of_ble_eq_true rfl) (Nat.le_of_ble_eq_true rfl) (Nat.le_of_ble_eq_true rfl) (Nat.le_of_ble_eq_true rfl) dX3_worth_147 ?_
                          refine lv_topi (fun x_203 ex_203 => ?_)
                          have tx_203 := ti_max ex_203
                          refine lv_goto (tgt := 154) G0.1 G0.2.1 dX3_worth_150 (by decide) ?_
                          refine lv_istore_n (lv' := [(3, .int x_203), (2, .int x_194), (5, .int x_17), (4, .int x_14), (0, .ref h), (1, .ref a)]) G0.1 G0.2.1 dX3_worth_154 rfl hl (by decide) rfl (fun ls hl => ?_)
                          refine lv_goto (tgt := 223) G0.1 G0.2.1 dX3_worth_155 (by decide) ?_
                          obtain ⟨x_204, ex_204⟩ : ∃ y : Int32, y = x_203 + 1 := ⟨_, rfl⟩
                          first | have tx_204 := ti_add ex_204 (by omega) (by omega) | skip
                          refine lv_iinc (v := x_204) (lv' := [(3, .int x_204), (2, .int x_194), (5, .int x_17), (4, .int x_14), (0, .ref h), (1, .ref a)]) G0.1 G0.2.1 dX3_worth_223 hl (k := 0) rfl (show _ + (1 : Int32) = _ from ex_204.symm) (by decide) rfl (fun ls hl => ?_)
                          refine lv_goto (tgt := 4) G0.1 G0.2.1 dX3_worth_226 (by decide) ?_
                          exact ih_4 ((2147483647 - x_204.toInt).toNat) (by omega) x_204 x_194 L_j4 f_j4 _ _ ls rfl ⟨by omega, by omega⟩ ⟨by omega, by omega⟩ hWF hRP hKP hw (lv_sub hl [0, 1, 4, 5] rfl)
                    · skip
                      have tc_149 := ti_eq c_149
                      refine lv_aload_n G0.1 G0.2.1 dX3_worth_114 rfl (lv_at hl 4 rfl) ?_
                      refine py_get (C := RX3) (T := TX3) (N := 3) (k := 1) (v := .ref (G.2 h 1)) G0 hw in_X3_worth_X3 rfl hr_7 (by decide) (by decide +kernel) rfl dX3_worth_115 ?_
                      refine lv_iload_n G0.1 G0.2.1 dX3_worth_118 rfl (lv_at hl 3 rfl) ?_
                      refine lv_iconst (v := 1) G0.1 G0.2.1 dX3_worth_119 (by decide) ?_
                      refine lv_isub G0.1 G0.2.1 dX3_worth_120 ?_
                      refine lv_topi (fun x_205 ex_205 => ?_)
                      first | have tx_205 := ti_sub ex_205 (by omega) (by omega) | skip
                      obtain ⟨g_206, ha_207, hi_208⟩ := wf_arr (n := 32) (lo := (-2147483648)) (hi := 2147483647) hWF t_4 (by decide) (fun _ => rfl)
                      have rg_209 : vp_in x_205 32 := ti_in (by omega) (by omega)
                      refine py_iald G0 hw ha_207 rg_209 dX3_worth_121 ?_
                      refine lv_topi (fun x_210 ex_210 => ?_)
                      have bx_210 := wf_free x_210
                      exact py_iret G0 hr rfl hlk hw ⟨hWF, hRP, hKP⟩ dX3_worth_122
                  · skip
                    have tc_148 := ti_eq c_148
                    refine lv_aload_n G0.1 G0.2.1 dX3_worth_79 rfl (lv_at hl 4 rfl) ?_
                    refine py_get (C := RX3) (T := TX3) (N := 3) (k := 1) (v := .ref (G.2 h 1)) G0 hw in_X3_worth_X3 rfl hr_7 (by decide) (by decide +kernel) rfl dX3_worth_80 ?_
                    refine lv_iload_n G0.1 G0.2.1 dX3_worth_83 rfl (lv_at hl 3 rfl) ?_
                    refine lv_iload G0.1 G0.2.1 dX3_worth_84 (lv_at hl 1 rfl) ?_
                    refine lv_bipush (v := 48) G0.1 G0.2.1 dX3_worth_86 (by decide) ?_
                    have jn_100 : ∀ (v_211 : Int32) (H_j100 : Heap) (locs : List Loc) (ls : Array Slot), py_W E (va_A (va_pl L f) s.heap.size) s L_j4 f_j4 H_j100 locs → lv_has ls 6 [(5, .int x_17), (4, .int x_14), (3, .int v_1), (2, .int v_2), (0, .ref h), (1, .ref a)] → W p l e (headSpec w_X3_worth ({ frames := 1, cells := 0, slots := 0, locals := 24 })).room s m ([.ref h, .ref a] : List Value).toArray below meth c H_j100 locs 0 0 (MQ below (py_Qi E L f s.heap.size (fun _ L1 f1 => WF E G L1 f1 ∧ RP E G f f1 ∧ KP G [21] false f f1)) ([.ref h, .ref a] : List Value).toArray s 0 0 (va_A (va_pl L f) s.heap.size)) (F0 m 100 ls [.int v_211, .int v_2, .ref (G.2 h 1)]) := by
                      intro v_211 H_j100 locs ls hw hl
                      obtain ⟨g_212, ha_213, hi_214⟩ := wf_arr (n := 32) (lo := (-2147483648)) (hi := 2147483647) hWF t_4 (by decide) (fun _ => rfl)
                      have rg_215 : vp_in v_2 32 := ti_in (by omega) (by omega)
                      refine py_iast G0 hw ha_213 rg_215 dX3_worth_100 (fun f_216 H_217 locs h_218 x_219 hw => ?_)
                      have hKP := hKP.upd hWF x_219 t_4 (Or.inl (by decide))
                      have hRP := hRP.trans (rp_upd hG hWF x_219 ha_213.2 h_218.2 (rp_code hG t_4 (by decide)) rfl)
                      have hi_220 := wf_inu (k := (v_2 : Int32).toNatClampNeg) (x := v_211) hi_214 (wf_free v_211).1 (wf_free v_211).2
                      have hWF := wf_upd hWF h_218 x_219 (by rw [t_4]; exact ⟨_, rfl, hi_220⟩)
                      have hr_7 := hr_7.ext x_219 (py_ne_arr hr_7 ha_213)
                      have ha_10 := ha_10.ext x_219 (wf_ne t_3 t_4 (by decide))
                      have ha_129 := ha_129.ext x_219 (wf_ne Ta t_4 (by decide))
                      obtain ⟨x_221, ex_221⟩ : ∃ y : Int32, y = v_2 + 1 := ⟨_, rfl⟩
                      first | have tx_221 := ti_add ex_221 (by omega) (by omega) | skip
                      refine lv_iinc (v := x_221) (lv' := [(2, .int x_221), (5, .int x_17), (4, .int x_14), (3, .int v_1), (0, .ref h), (1, .ref a)]) G0.1 G0.2.1 dX3_worth_101 hl (k := 3) rfl (show _ + (1 : Int32) = _ from ex_221.symm) (by decide) rfl (fun ls hl => ?_)
                      refine lv_goto (tgt := 223) G0.1 G0.2.1 dX3_worth_104 (by decide) ?_
                      obtain ⟨x_222, ex_222⟩ : ∃ y : Int32, y = v_1 + 1 := ⟨_, rfl⟩
                      first | have tx_222 := ti_add ex_222 (by omega) (by omega) | skip
                      refine lv_iinc (v := x_222) (lv' := [(3, .int x_222), (2, .int x_221), (5, .int x_17), (4, .int x_14), (0, .ref h), (1, .ref a)]) G0.1 G0.2.1 dX3_worth_223 hl (k := 3) rfl (show _ + (1 : Int32) = _ from ex_222.symm) (by decide) rfl (fun ls hl => ?_)
                      refine lv_goto (tgt := 4) G0.1 G0.2.1 dX3_worth_226 (by decide) ?_
                      exact ih_4 ((2147483647 - x_222.toInt).toNat) (by omega) x_222 x_221 L_j4 f_216 _ _ ls rfl ⟨by omega, by omega⟩ ⟨by omega, by omega⟩ hWF hRP hKP hw (lv_sub hl [0, 1, 4, 5] rfl)
                    refine lv_icmp_ne (tgt := 96) G0.1 G0.2.1 dX3_worth_88 (by decide) (fun c_223 => ?_) (fun c_223 => ?_)
                    · skip
                      have tc_223 := ti_ne c_223
                      refine lv_aload_n G0.1 G0.2.1 dX3_worth_96 rfl (lv_at hl 5 rfl) ?_
                      refine lv_iload G0.1 G0.2.1 dX3_worth_97 (lv_at hl 0 rfl) ?_
                      have rg_224 : vp_in x_17 6 := ti_in (by omega) (by omega)
                      refine py_iald G0 hw ha_129 rg_224 dX3_worth_99 ?_
                      refine lv_topi (fun x_225 ex_225 => ?_)
                      have bx_225 := wf_free x_225
                      exact jn_100 x_225 _ _ ls hw (lv_sub hl [0, 1, 2, 3, 4, 5] rfl)
                    · skip
                      have tc_223 := ti_eq c_223
                      refine lv_iload G0.1 G0.2.1 dX3_worth_91 (lv_at hl 0 rfl) ?_
                      refine lv_goto (tgt := 100) G0.1 G0.2.1 dX3_worth_93 (by decide) ?_
                      exact jn_100 x_17 _ _ ls hw (lv_sub hl [0, 1, 2, 3, 4, 5] rfl)
              · skip
                have tc_131 := ti_nlt c_131
                refine lv_iconst (v := 0) G0.1 G0.2.1 dX3_worth_63 (by decide) ?_
                exact py_iret G0 hr rfl hlk hw ⟨hWF, hRP, hKP⟩ dX3_worth_64
  exact lo_4 _ 0 0 L f _ _ ls rfl ⟨by omega, by omega⟩ ⟨by omega, by omega⟩ hWF hRP hKP hw (lv_sub hl [0, 1, 2, 3] rfl)
