theorem dX12_clause_0 : decode cX12_clause 0 = .ok (.bipush 90, 2) := by decide +kernel
theorem dX12_clause_2 : decode cX12_clause 2 = .ok (.aload_n 0, 1) := by decide +kernel
theorem dX12_clause_3 : decode cX12_clause 3 = .ok (.getfield 137, 3) := by decide +kernel
theorem dX12_clause_6 : decode cX12_clause 6 = .ok (.imul, 1) := by decide +kernel
theorem dX12_clause_7 : decode cX12_clause 7 = .ok (.aload_n 0, 1) := by decide +kernel
theorem dX12_clause_8 : decode cX12_clause 8 = .ok (.getfield 22, 3) := by decide +kernel
theorem dX12_clause_11 : decode cX12_clause 11 = .ok (.aload_n 0, 1) := by decide +kernel
theorem dX12_clause_12 : decode cX12_clause 12 = .ok (.getfield 137, 3) := by decide +kernel
theorem dX12_clause_15 : decode cX12_clause 15 = .ok (.iaload, 1) := by decide +kernel
theorem dX12_clause_16 : decode cX12_clause 16 = .ok (.iadd, 1) := by decide +kernel
theorem dX12_clause_17 : decode cX12_clause 17 = .ok (.istore_n 1, 1) := by decide +kernel
theorem dX12_clause_18 : decode cX12_clause 18 = .ok (.aload_n 0, 1) := by decide +kernel
theorem dX12_clause_19 : decode cX12_clause 19 = .ok (.getfield 134, 3) := by decide +kernel
theorem dX12_clause_22 : decode cX12_clause 22 = .ok (.iconst (-1), 1) := by decide +kernel
theorem dX12_clause_23 : decode cX12_clause 23 = .ok (.if_icmp .ne 16, 3) := by decide +kernel
theorem dX12_clause_26 : decode cX12_clause 26 = .ok (.aload_n 0, 1) := by decide +kernel
theorem dX12_clause_27 : decode cX12_clause 27 = .ok (.invokevirtual 146, 3) := by decide +kernel
theorem dX12_clause_30 : decode cX12_clause 30 = .ok (.bipush 121, 2) := by decide +kernel
theorem dX12_clause_32 : decode cX12_clause 32 = .ok (.if_icmp .eq 7, 3) := by decide +kernel
theorem dX12_clause_35 : decode cX12_clause 35 = .ok (.aload_n 0, 1) := by decide +kernel
theorem dX12_clause_36 : decode cX12_clause 36 = .ok (.invokevirtual 143, 3) := by decide +kernel
theorem dX12_clause_39 : decode cX12_clause 39 = .ok (.aload_n 0, 1) := by decide +kernel
theorem dX12_clause_40 : decode cX12_clause 40 = .ok (.dup, 1) := by decide +kernel
theorem dX12_clause_41 : decode cX12_clause 41 = .ok (.getfield 127, 3) := by decide +kernel
theorem dX12_clause_44 : decode cX12_clause 44 = .ok (.iconst 1, 1) := by decide +kernel
theorem dX12_clause_45 : decode cX12_clause 45 = .ok (.iadd, 1) := by decide +kernel
theorem dX12_clause_46 : decode cX12_clause 46 = .ok (.putfield 127, 3) := by decide +kernel
theorem dX12_clause_49 : decode cX12_clause 49 = .ok (.aload_n 0, 1) := by decide +kernel
theorem dX12_clause_50 : decode cX12_clause 50 = .ok (.getfield 134, 3) := by decide +kernel
theorem dX12_clause_53 : decode cX12_clause 53 = .ok (.iconst (-1), 1) := by decide +kernel
theorem dX12_clause_54 : decode cX12_clause 54 = .ok (.if_icmp .ne 16, 3) := by decide +kernel
theorem dX12_clause_57 : decode cX12_clause 57 = .ok (.aload_n 0, 1) := by decide +kernel
theorem dX12_clause_58 : decode cX12_clause 58 = .ok (.invokevirtual 146, 3) := by decide +kernel
theorem dX12_clause_61 : decode cX12_clause 61 = .ok (.bipush 58, 2) := by decide +kernel
theorem dX12_clause_63 : decode cX12_clause 63 = .ok (.if_icmp .eq 7, 3) := by decide +kernel
theorem dX12_clause_66 : decode cX12_clause 66 = .ok (.aload_n 0, 1) := by decide +kernel
theorem dX12_clause_67 : decode cX12_clause 67 = .ok (.invokevirtual 143, 3) := by decide +kernel
theorem dX12_clause_70 : decode cX12_clause 70 = .ok (.aload_n 0, 1) := by decide +kernel
theorem dX12_clause_71 : decode cX12_clause 71 = .ok (.dup, 1) := by decide +kernel
theorem dX12_clause_72 : decode cX12_clause 72 = .ok (.getfield 127, 3) := by decide +kernel
theorem dX12_clause_75 : decode cX12_clause 75 = .ok (.iconst 1, 1) := by decide +kernel
theorem dX12_clause_76 : decode cX12_clause 76 = .ok (.iadd, 1) := by decide +kernel
theorem dX12_clause_77 : decode cX12_clause 77 = .ok (.putfield 127, 3) := by decide +kernel
theorem dX12_clause_80 : decode cX12_clause 80 = .ok (.aload_n 0, 1) := by decide +kernel
theorem dX12_clause_81 : decode cX12_clause 81 = .ok (.getfield 134, 3) := by decide +kernel
theorem dX12_clause_84 : decode cX12_clause 84 = .ok (.iconst (-1), 1) := by decide +kernel
theorem dX12_clause_85 : decode cX12_clause 85 = .ok (.if_icmp .eq 4, 3) := by decide +kernel
theorem dX12_clause_88 : decode cX12_clause 88 = .ok (.return_, 1) := by decide +kernel
theorem dX12_clause_89 : decode cX12_clause 89 = .ok (.aload_n 0, 1) := by decide +kernel
theorem dX12_clause_90 : decode cX12_clause 90 = .ok (.getfield 25, 3) := by decide +kernel
theorem dX12_clause_93 : decode cX12_clause 93 = .ok (.iload_n 1, 1) := by decide +kernel
theorem dX12_clause_94 : decode cX12_clause 94 = .ok (.aload_n 0, 1) := by decide +kernel
theorem dX12_clause_95 : decode cX12_clause 95 = .ok (.getfield 19, 3) := by decide +kernel
theorem dX12_clause_98 : decode cX12_clause 98 = .ok (.aload_n 0, 1) := by decide +kernel
theorem dX12_clause_99 : decode cX12_clause 99 = .ok (.getfield 137, 3) := by decide +kernel
theorem dX12_clause_102 : decode cX12_clause 102 = .ok (.iaload, 1) := by decide +kernel
theorem dX12_clause_103 : decode cX12_clause 103 = .ok (.iastore, 1) := by decide +kernel
theorem dX12_clause_104 : decode cX12_clause 104 = .ok (.aload_n 0, 1) := by decide +kernel
theorem dX12_clause_105 : decode cX12_clause 105 = .ok (.invokevirtual 146, 3) := by decide +kernel
theorem dX12_clause_108 : decode cX12_clause 108 = .ok (.bipush 33, 2) := by decide +kernel
theorem dX12_clause_110 : decode cX12_clause 110 = .ok (.if_icmp .eq 12, 3) := by decide +kernel
theorem dX12_clause_113 : decode cX12_clause 113 = .ok (.aload_n 0, 1) := by decide +kernel
theorem dX12_clause_114 : decode cX12_clause 114 = .ok (.invokevirtual 146, 3) := by decide +kernel
theorem dX12_clause_117 : decode cX12_clause 117 = .ok (.bipush 40, 2) := by decide +kernel
theorem dX12_clause_119 : decode cX12_clause 119 = .ok (.if_icmp .ne 7, 3) := by decide +kernel
theorem dX12_clause_122 : decode cX12_clause 122 = .ok (.iconst 1, 1) := by decide +kernel
theorem dX12_clause_123 : decode cX12_clause 123 = .ok (.goto 4, 3) := by decide +kernel
theorem dX12_clause_126 : decode cX12_clause 126 = .ok (.iconst 0, 1) := by decide +kernel
theorem dX12_clause_127 : decode cX12_clause 127 = .ok (.istore_n 2, 1) := by decide +kernel
theorem dX12_clause_128 : decode cX12_clause 128 = .ok (.iload_n 2, 1) := by decide +kernel
theorem dX12_clause_129 : decode cX12_clause 129 = .ok (.ifCond .eq 10, 3) := by decide +kernel
theorem dX12_clause_132 : decode cX12_clause 132 = .ok (.aload_n 0, 1) := by decide +kernel
theorem dX12_clause_133 : decode cX12_clause 133 = .ok (.invokevirtual 186, 3) := by decide +kernel
theorem dX12_clause_136 : decode cX12_clause 136 = .ok (.goto 47, 3) := by decide +kernel
theorem dX12_clause_139 : decode cX12_clause 139 = .ok (.aload_n 0, 1) := by decide +kernel
theorem dX12_clause_140 : decode cX12_clause 140 = .ok (.invokevirtual 167, 3) := by decide +kernel
theorem dX12_clause_143 : decode cX12_clause 143 = .ok (.aload_n 0, 1) := by decide +kernel
theorem dX12_clause_144 : decode cX12_clause 144 = .ok (.getfield 134, 3) := by decide +kernel
theorem dX12_clause_147 : decode cX12_clause 147 = .ok (.iconst (-1), 1) := by decide +kernel
theorem dX12_clause_148 : decode cX12_clause 148 = .ok (.if_icmp .ne 17, 3) := by decide +kernel
theorem dX12_clause_151 : decode cX12_clause 151 = .ok (.aload_n 0, 1) := by decide +kernel
theorem dX12_clause_152 : decode cX12_clause 152 = .ok (.invokevirtual 146, 3) := by decide +kernel
theorem dX12_clause_155 : decode cX12_clause 155 = .ok (.invokestatic 180, 3) := by decide +kernel
theorem dX12_clause_158 : decode cX12_clause 158 = .ok (.ifCond .eq 7, 3) := by decide +kernel
theorem dX12_clause_161 : decode cX12_clause 161 = .ok (.iconst 1, 1) := by decide +kernel
theorem dX12_clause_162 : decode cX12_clause 162 = .ok (.goto 4, 3) := by decide +kernel
theorem dX12_clause_165 : decode cX12_clause 165 = .ok (.iconst 0, 1) := by decide +kernel
theorem dX12_clause_166 : decode cX12_clause 166 = .ok (.istore_n 2, 1) := by decide +kernel
theorem dX12_clause_167 : decode cX12_clause 167 = .ok (.iload_n 2, 1) := by decide +kernel
theorem dX12_clause_168 : decode cX12_clause 168 = .ok (.ifCond .eq 15, 3) := by decide +kernel
theorem dX12_clause_171 : decode cX12_clause 171 = .ok (.aload_n 0, 1) := by decide +kernel
theorem dX12_clause_172 : decode cX12_clause 172 = .ok (.invokevirtual 189, 3) := by decide +kernel
theorem dX12_clause_175 : decode cX12_clause 175 = .ok (.aload_n 0, 1) := by decide +kernel
theorem dX12_clause_176 : decode cX12_clause 176 = .ok (.invokevirtual 192, 3) := by decide +kernel
theorem dX12_clause_179 : decode cX12_clause 179 = .ok (.aload_n 0, 1) := by decide +kernel
theorem dX12_clause_180 : decode cX12_clause 180 = .ok (.invokevirtual 195, 3) := by decide +kernel
theorem dX12_clause_183 : decode cX12_clause 183 = .ok (.aload_n 0, 1) := by decide +kernel
theorem dX12_clause_184 : decode cX12_clause 184 = .ok (.getfield 28, 3) := by decide +kernel
theorem dX12_clause_187 : decode cX12_clause 187 = .ok (.iload_n 1, 1) := by decide +kernel
theorem dX12_clause_188 : decode cX12_clause 188 = .ok (.aload_n 0, 1) := by decide +kernel
theorem dX12_clause_189 : decode cX12_clause 189 = .ok (.getfield 25, 3) := by decide +kernel
theorem dX12_clause_192 : decode cX12_clause 192 = .ok (.iload_n 1, 1) := by decide +kernel
theorem dX12_clause_193 : decode cX12_clause 193 = .ok (.iaload, 1) := by decide +kernel
theorem dX12_clause_194 : decode cX12_clause 194 = .ok (.iastore, 1) := by decide +kernel
theorem dX12_clause_195 : decode cX12_clause 195 = .ok (.iload_n 2, 1) := by decide +kernel
theorem dX12_clause_196 : decode cX12_clause 196 = .ok (.ifCond .eq 54, 3) := by decide +kernel
theorem dX12_clause_199 : decode cX12_clause 199 = .ok (.aload_n 0, 1) := by decide +kernel
theorem dX12_clause_200 : decode cX12_clause 200 = .ok (.getfield 134, 3) := by decide +kernel
theorem dX12_clause_203 : decode cX12_clause 203 = .ok (.iconst (-1), 1) := by decide +kernel
theorem dX12_clause_204 : decode cX12_clause 204 = .ok (.if_icmp .ne 46, 3) := by decide +kernel
theorem dX12_clause_207 : decode cX12_clause 207 = .ok (.aload_n 0, 1) := by decide +kernel
theorem dX12_clause_208 : decode cX12_clause 208 = .ok (.invokevirtual 146, 3) := by decide +kernel
theorem dX12_clause_211 : decode cX12_clause 211 = .ok (.bipush 63, 2) := by decide +kernel
theorem dX12_clause_213 : decode cX12_clause 213 = .ok (.if_icmp .eq 8, 3) := by decide +kernel
theorem dX12_clause_216 : decode cX12_clause 216 = .ok (.aload_n 0, 1) := by decide +kernel
theorem dX12_clause_217 : decode cX12_clause 217 = .ok (.invokevirtual 143, 3) := by decide +kernel
theorem dX12_clause_220 : decode cX12_clause 220 = .ok (.return_, 1) := by decide +kernel
theorem dX12_clause_221 : decode cX12_clause 221 = .ok (.aload_n 0, 1) := by decide +kernel
theorem dX12_clause_222 : decode cX12_clause 222 = .ok (.dup, 1) := by decide +kernel
theorem dX12_clause_223 : decode cX12_clause 223 = .ok (.getfield 127, 3) := by decide +kernel
theorem dX12_clause_226 : decode cX12_clause 226 = .ok (.iconst 1, 1) := by decide +kernel
theorem dX12_clause_227 : decode cX12_clause 227 = .ok (.iadd, 1) := by decide +kernel
theorem dX12_clause_228 : decode cX12_clause 228 = .ok (.putfield 127, 3) := by decide +kernel
theorem dX12_clause_231 : decode cX12_clause 231 = .ok (.aload_n 0, 1) := by decide +kernel
theorem dX12_clause_232 : decode cX12_clause 232 = .ok (.getfield 28, 3) := by decide +kernel
theorem dX12_clause_235 : decode cX12_clause 235 = .ok (.iload_n 1, 1) := by decide +kernel
theorem dX12_clause_236 : decode cX12_clause 236 = .ok (.aload_n 0, 1) := by decide +kernel
theorem dX12_clause_237 : decode cX12_clause 237 = .ok (.getfield 19, 3) := by decide +kernel
theorem dX12_clause_240 : decode cX12_clause 240 = .ok (.aload_n 0, 1) := by decide +kernel
theorem dX12_clause_241 : decode cX12_clause 241 = .ok (.getfield 137, 3) := by decide +kernel
theorem dX12_clause_244 : decode cX12_clause 244 = .ok (.iaload, 1) := by decide +kernel
theorem dX12_clause_245 : decode cX12_clause 245 = .ok (.iastore, 1) := by decide +kernel
theorem dX12_clause_246 : decode cX12_clause 246 = .ok (.aload_n 0, 1) := by decide +kernel
theorem dX12_clause_247 : decode cX12_clause 247 = .ok (.invokevirtual 167, 3) := by decide +kernel
theorem dX12_clause_250 : decode cX12_clause 250 = .ok (.aload_n 0, 1) := by decide +kernel
theorem dX12_clause_251 : decode cX12_clause 251 = .ok (.getfield 31, 3) := by decide +kernel
theorem dX12_clause_254 : decode cX12_clause 254 = .ok (.iload_n 1, 1) := by decide +kernel
theorem dX12_clause_255 : decode cX12_clause 255 = .ok (.aload_n 0, 1) := by decide +kernel
theorem dX12_clause_256 : decode cX12_clause 256 = .ok (.getfield 19, 3) := by decide +kernel
theorem dX12_clause_259 : decode cX12_clause 259 = .ok (.aload_n 0, 1) := by decide +kernel
theorem dX12_clause_260 : decode cX12_clause 260 = .ok (.getfield 137, 3) := by decide +kernel
theorem dX12_clause_263 : decode cX12_clause 263 = .ok (.iaload, 1) := by decide +kernel
theorem dX12_clause_264 : decode cX12_clause 264 = .ok (.iastore, 1) := by decide +kernel
theorem dX12_clause_265 : decode cX12_clause 265 = .ok (.aload_n 0, 1) := by decide +kernel
theorem dX12_clause_266 : decode cX12_clause 266 = .ok (.getfield 22, 3) := by decide +kernel
theorem dX12_clause_269 : decode cX12_clause 269 = .ok (.aload_n 0, 1) := by decide +kernel
theorem dX12_clause_270 : decode cX12_clause 270 = .ok (.getfield 137, 3) := by decide +kernel
theorem dX12_clause_273 : decode cX12_clause 273 = .ok (.dup2, 1) := by decide +kernel
theorem dX12_clause_274 : decode cX12_clause 274 = .ok (.iaload, 1) := by decide +kernel
theorem dX12_clause_275 : decode cX12_clause 275 = .ok (.iconst 1, 1) := by decide +kernel
theorem dX12_clause_276 : decode cX12_clause 276 = .ok (.iadd, 1) := by decide +kernel
theorem dX12_clause_277 : decode cX12_clause 277 = .ok (.iastore, 1) := by decide +kernel
theorem dX12_clause_278 : decode cX12_clause 278 = .ok (.return_, 1) := by decide +kernel
def w_X12_clause : List Cond := .code yX12_clause cX12_clause 3 none :: ([Cond.fieldLink RX12 137 "HeadYearModel" "text" "I", Cond.fieldLink RX12 22 "HeadYearModel" "clauses" "[I", Cond.fieldLink RX12 134 "HeadYearModel" "wrong" "I", Cond.fieldLink RX12 127 "HeadYearModel" "at" "I", Cond.fieldLink RX12 25 "HeadYearModel" "testFrom" "[I", Cond.fieldLink RX12 19 "HeadYearModel" "codes" "[I", Cond.methodLink RX12 146 yX12_look, Cond.instanceMethod yX12_look, Cond.selects RX12 yX12_look yX12_look, Cond.initialized RX12, Cond.methodLink RX12 186 yX12_condition, Cond.instanceMethod yX12_condition, Cond.selects RX12 yX12_condition yX12_condition, Cond.fieldLink RX12 28 "HeadYearModel" "sumFrom" "[I", Cond.fieldLink RX12 31 "HeadYearModel" "sumTo" "[I", Cond.methodLink RX12 167 yX12_sum, Cond.instanceMethod yX12_sum, Cond.selects RX12 yX12_sum yX12_sum, Cond.methodLink RX12 143 yX12_bad, Cond.instanceMethod yX12_bad, Cond.selects RX12 yX12_bad yX12_bad, Cond.methodLink RX12 180 yX12_isSign, Cond.static yX12_isSign, Cond.methodLink RX12 189 yX12_compare, Cond.instanceMethod yX12_compare, Cond.selects RX12 yX12_compare yX12_compare, Cond.methodLink RX12 192 yX12_goOnAnd, Cond.instanceMethod yX12_goOnAnd, Cond.selects RX12 yX12_goOnAnd yX12_goOnAnd, Cond.methodLink RX12 195 yX12_goOnOr, Cond.instanceMethod yX12_goOnOr, Cond.selects RX12 yX12_goOnOr yX12_goOnOr] ++ (u_ws RX12 TX12 54 ++ (w_X12_look ++ (w_X12_condition ++ (w_X12_sum ++ (w_X12_bad ++ (w_X12_isSign ++ (w_X12_compare ++ (w_X12_goOnAnd ++ (w_X12_goOnOr ++ ([])))))))))))
theorem in_X12_clause_X12 : ∀ w ∈ u_ws RX12 TX12 54, w ∈ w_X12_clause := fun _ h => List.mem_cons_of_mem _ (List.mem_append_right _ (List.mem_append_left _ h))
theorem gg_X12_clause_X12_look : GoodIn w_X12_clause w_X12_look := goodIn_sub (fun _ h => List.mem_cons_of_mem _ (List.mem_append_right _ (List.mem_append_right _ (List.mem_append_left _ h)))) (by decide +kernel)
theorem gg_X12_clause_X12_condition : GoodIn w_X12_clause w_X12_condition := goodIn_sub (fun _ h => List.mem_cons_of_mem _ (List.mem_append_right _ (List.mem_append_right _ (List.mem_append_right _ (List.mem_append_left _ h))))) (by decide +kernel)
theorem gg_X12_clause_X12_sum : GoodIn w_X12_clause w_X12_sum := goodIn_sub (fun _ h => List.mem_cons_of_mem _ (List.mem_append_right _ (List.mem_append_right _ (List.mem_append_right _ (List.mem_append_right _ (List.mem_append_left _ h)))))) (by decide +kernel)
theorem gg_X12_clause_X12_bad : GoodIn w_X12_clause w_X12_bad := goodIn_sub (fun _ h => List.mem_cons_of_mem _ (List.mem_append_right _ (List.mem_append_right _ (List.mem_append_right _ (List.mem_append_right _ (List.mem_append_right _ (List.mem_append_left _ h))))))) (by decide +kernel)
theorem gg_X12_clause_X12_isSign : GoodIn w_X12_clause w_X12_isSign := goodIn_sub (fun _ h => List.mem_cons_of_mem _ (List.mem_append_right _ (List.mem_append_right _ (List.mem_append_right _ (List.mem_append_right _ (List.mem_append_right _ (List.mem_append_right _ (List.mem_append_left _ h)))))))) (by decide +kernel)
theorem gg_X12_clause_X12_compare : GoodIn w_X12_clause w_X12_compare := goodIn_sub (fun _ h => List.mem_cons_of_mem _ (List.mem_append_right _ (List.mem_append_right _ (List.mem_append_right _ (List.mem_append_right _ (List.mem_append_right _ (List.mem_append_right _ (List.mem_append_right _ (List.mem_append_left _ h))))))))) (by decide +kernel)
theorem gg_X12_clause_X12_goOnAnd : GoodIn w_X12_clause w_X12_goOnAnd := goodIn_sub (fun _ h => List.mem_cons_of_mem _ (List.mem_append_right _ (List.mem_append_right _ (List.mem_append_right _ (List.mem_append_right _ (List.mem_append_right _ (List.mem_append_right _ (List.mem_append_right _ (List.mem_append_right _ (List.mem_append_left _ h)))))))))) (by decide +kernel)
theorem gg_X12_clause_X12_goOnOr : GoodIn w_X12_clause w_X12_goOnOr := goodIn_sub (fun _ h => List.mem_cons_of_mem _ (List.mem_append_right _ (List.mem_append_right _ (List.mem_append_right _ (List.mem_append_right _ (List.mem_append_right _ (List.mem_append_right _ (List.mem_append_right _ (List.mem_append_right _ (List.mem_append_right _ (List.mem_append_left _ h))))))))))) (by decide +kernel)
theorem g_X12_clause_X12_bad_143 : GoodIn w_X12_clause (wsV RX12 143 RX12 yX12_bad w_X12_bad) := goodIn_app (goodIn_of _ (by decide +kernel)) gg_X12_clause_X12_bad
theorem g_X12_clause_X12_compare_189 : GoodIn w_X12_clause (wsV RX12 189 RX12 yX12_compare w_X12_compare) := goodIn_app (goodIn_of _ (by decide +kernel)) gg_X12_clause_X12_compare
theorem g_X12_clause_X12_condition_186 : GoodIn w_X12_clause (wsV RX12 186 RX12 yX12_condition w_X12_condition) := goodIn_app (goodIn_of _ (by decide +kernel)) gg_X12_clause_X12_condition
theorem g_X12_clause_X12_goOnAnd_192 : GoodIn w_X12_clause (wsV RX12 192 RX12 yX12_goOnAnd w_X12_goOnAnd) := goodIn_app (goodIn_of _ (by decide +kernel)) gg_X12_clause_X12_goOnAnd
theorem g_X12_clause_X12_goOnOr_195 : GoodIn w_X12_clause (wsV RX12 195 RX12 yX12_goOnOr w_X12_goOnOr) := goodIn_app (goodIn_of _ (by decide +kernel)) gg_X12_clause_X12_goOnOr
theorem g_X12_clause_X12_isSign_180 : GoodIn w_X12_clause (va_wsS RX12 180 yX12_isSign w_X12_isSign) := goodIn_app (goodIn_of _ (by decide +kernel)) gg_X12_clause_X12_isSign
theorem g_X12_clause_X12_look_146 : GoodIn w_X12_clause (wsV RX12 146 RX12 yX12_look w_X12_look) := goodIn_app (goodIn_of _ (by decide +kernel)) gg_X12_clause_X12_look
theorem g_X12_clause_X12_sum_167 : GoodIn w_X12_clause (wsV RX12 167 RX12 yX12_sum w_X12_sum) := goodIn_app (goodIn_of _ (by decide +kernel)) gg_X12_clause_X12_sum
set_option maxHeartbeats 4000000 in
set_option maxRecDepth 100000 in
theorem c_X12_clause (l : Launch) (E : py_E) (G : wf_G) (L : List Nat) (f : py_F) (sz : Nat) (u : Nat) (hG : GT G) (hWF : WF E G L f) (Tu : G.1 u = 13) (hp0 : mi f u 4 = -1 ∧ mi f u 5 = 0 ∧ 0 ≤ mi f u 3 ∧ mi f u 3 ≤ mi f u 2 ∧ cdv f G u ≤ mi f u 3 ∧ 2 * clv f G u ≤ mi f u 3) : Met l yX12_clause w_X12_clause ({ frames := 67, cells := 0, slots := 0, locals := 3680 }) (py_Pc E [.ref u] L f sz) (py_Qv E L f sz (fun L1 f1 => (mi f u 3 + 2 ≤ mi f1 u 3 ∧ cdv f1 G u ≤ mi f1 u 3 ∧ mi f1 u 3 ≤ 170) ∧ (mi f1 u 4 = -1 → mi f1 u 5 = 0 ∧ mi f1 u 3 ≤ mi f u 2 ∧ clv f1 G u = clv f G u + 1) ∧ (clv f1 G u = clv f G u ∨ clv f1 G u = clv f G u + 1) ∧ (CX f f1 G u) ∧ (mi f1 u 4 = -1 → CO f1 G u (mi f u 14) (90 * mi f u 14 + clv f G u) ∧ arz f1 (G.2 u 12) (90 * mi f u 14 + clv f G u) ≤ cdv f1 G u) ∧ WF E G L1 f1 ∧ KP G [41, 42, 43, 44, 45, 46, 47, 13] false f f1 ∧ FK [3, 4, 5] f f1 u)) 0 0 (va_A (va_pl L f) sz) := by
  refine Met.ofW (cc := cX12_clause) (maxL := 3) (ret := none) (by decide) rfl ?_
  intro p e s m args below meth c s₁ B hml hv
  obtain ⟨rfl, rfl, hw⟩ := py_start hv
  have G0 : CallFix p m c cX12_clause 3 s _ w_X12_clause RX12 := ⟨B.exec, B.bytes, hml, findClass_of_methodNamed B.named, atoms_spec (ws := w_X12_clause) B.pre⟩
  have hr := B.returns
  have hlk := B.notSynchronized
  have kcm1 : (-1 : Int32).toInt = -1 := rfl
  have kc0 : (0 : Int32).toInt = 0 := rfl
  have kc1 : (1 : Int32).toInt = 1 := rfl
  have kc33 : (33 : Int32).toInt = 33 := rfl
  have kc40 : (40 : Int32).toInt = 40 := rfl
  have kc58 : (58 : Int32).toInt = 58 := rfl
  have kc63 : (63 : Int32).toInt = 63 := rfl
  have kc90 : (90 : Int32).toInt = 90 := rfl
  have kc121 : (121 : Int32).toInt = 121 := rfl
  have hl := lv_entry ([.ref u]) (n := 3) (Nat.le_of_ble_eq_true rfl)
  rw [lg_entry_eq]
  generalize (lg_sl ([.ref u]) ++ List.replicate (3 - (lg_sl ([.ref u])).length) Slot.unset).toArray = ls at hl ⊢
  have hl : lv_has ls 3 [(0, .ref u)] := hl
  have hFK : FK [3, 4, 5] f f u := FK.refl
  have hKP : KP G [41, 42, 43, 44, 45, 46, 47, 13] false f f := KP.refl
  have hX9 : AX f f (G.2 u 9) (mi f u 14) := AX.refl
  have hX10 : AX f f (G.2 u 10) (90 * mi f u 14 + clv f G u) := AX.refl
  have hX11 : AX f f (G.2 u 11) (90 * mi f u 14 + clv f G u) := AX.refl
  have hX12 : AX f f (G.2 u 12) (90 * mi f u 14 + clv f G u) := AX.refl
  obtain ⟨v_1, v_2, v_3, v_4, v_5, v_6, v_7, v_8, v_9, v_10, v_11, v_12, y_13, v_14, v_15, v_16, v_17, v_18, y_19, v_20, y_21, v_22, hr_35, b_23, b_24, b_25, b_26, b_27, b_28, b_29, b_30, b_31, b_32, b_33, b_34⟩ := wg_12 hWF Tu
  have tq_36 := mi_row hr_35 2 rfl
  have tq_37 := mi_row hr_35 3 rfl
  have bv_3 := wf_free v_3
  have tq_38 := mi_row hr_35 4 rfl
  have bv_4 := wf_free v_4
  have tq_39 := mi_row hr_35 5 rfl
  have bv_5 := wf_free v_5
  have tq_40 := mi_row hr_35 14 rfl
  have hcd := cdv_rng hG hWF Tu (by omega) (by omega)
  have hck := clv_rng hG hWF Tu (by omega) (by omega)
  have hTR : TR f f G u (80) 0 0 := TR.refl (by omega) (by omega)
  refine lv_bipush (v := 90) G0.1 G0.2.1 dX12_clause_0 (by decide) ?_
  refine lv_aload_n G0.1 G0.2.1 dX12_clause_2 rfl (lv_at hl 0 rfl) ?_
  refine py_get (C := RX12) (T := TX12) (N := 54) (k := 14) (v := .int v_7) G0 hw in_X12_clause_X12 rfl hr_35 (by decide) (by decide +kernel) rfl dX12_clause_3 ?_
  refine lv_imul G0.1 G0.2.1 dX12_clause_6 ?_
  refine lv_topi (fun x_41 ex_41 => ?_)
  first | have tx_41 := ti_muld ex_41 kc90 (by omega -splitDisjunctions) (by omega -splitDisjunctions) | skip
  refine lv_aload_n G0.1 G0.2.1 dX12_clause_7 rfl (lv_at hl 0 rfl) ?_
  refine py_get (C := RX12) (T := TX12) (N := 54) (k := 9) (v := .ref (G.2 u 9)) G0 hw in_X12_clause_X12 rfl hr_35 (by decide) (by decide +kernel) rfl dX12_clause_8 ?_
  refine lv_aload_n G0.1 G0.2.1 dX12_clause_11 rfl (lv_at hl 0 rfl) ?_
  refine py_get (C := RX12) (T := TX12) (N := 54) (k := 14) (v := .int v_7) G0 hw in_X12_clause_X12 rfl hr_35 (by decide) (by decide +kernel) rfl dX12_clause_12 ?_
  obtain ⟨g_42, ha_43, hi_44⟩ := wf_arr (n := 5) (lo := 0) (hi := 90) hWF (wt12_9 hG Tu) (by decide) (fun _ => rfl)
  have rg_45 : vp_in v_7 5 := ti_in (by omega) (by omega)
  refine py_iald G0 hw ha_43 rg_45 dX12_clause_15 ?_
  refine lv_topi (fun x_46 ex_46 => ?_)
  have bx_46 := ti_at hi_44 rg_45 ex_46
  have zx_46 := arz_ld ha_43 ex_46
  have hkxx_46 := clv_ld hr_35 rfl ha_43 ex_46
  refine lv_iadd G0.1 G0.2.1 dX12_clause_16 ?_
  refine lv_topi (fun x_47 ex_47 => ?_)
  first | have tx_47 := ti_add ex_47 (by omega -splitDisjunctions) (by omega -splitDisjunctions) | skip
  refine lv_istore_n (lv' := [(1, .int x_47), (0, .ref u)]) G0.1 G0.2.1 dX12_clause_17 rfl hl (by decide) rfl (fun ls hl => ?_)
  refine lv_aload_n G0.1 G0.2.1 dX12_clause_18 rfl (lv_at hl 1 rfl) ?_
  refine py_get (C := RX12) (T := TX12) (N := 54) (k := 4) (v := .int v_4) G0 hw in_X12_clause_X12 rfl hr_35 (by decide) (by decide +kernel) rfl dX12_clause_19 ?_
  refine lv_iconst (v := (-1)) G0.1 G0.2.1 dX12_clause_22 (by decide) ?_
  have jn_39 : ∀ (L_j39 : List Nat) (f_j39 : py_F) (H_j39 : Heap) (locs : List Loc) (ls : Array Slot), WF E G L_j39 f_j39 → KP G [41, 42, 43, 44, 45, 46, 47, 13] false f f_j39 → AX f f_j39 (G.2 u 9) (mi f u 14) → AX f f_j39 (G.2 u 10) (90 * mi f u 14 + clv f G u) → AX f f_j39 (G.2 u 11) (90 * mi f u 14 + clv f G u) → AX f f_j39 (G.2 u 12) (90 * mi f u 14 + clv f G u) → FK [3, 4, 5] f f_j39 u → TR f f_j39 G u (80) 0 0 → (mi f u 3 + 0 ≤ mi f_j39 u 3 ∧ mi f_j39 u 3 ≤ 160) → (cdv f_j39 G u = cdv f G u ∧ clv f_j39 G u = clv f G u ∧ mi f_j39 u 14 = mi f u 14) → (mi f_j39 u 4 = -1 → mi f_j39 u 3 < mi f u 2) → (mi f_j39 u 5 = 0 ∧ mi f_j39 u 2 = mi f u 2) → py_W E (va_A (va_pl L f) s.heap.size) s L_j39 f_j39 H_j39 locs → lv_has ls 3 [(1, .int x_47), (0, .ref u)] → W p l e (headSpec w_X12_clause ({ frames := 67, cells := 0, slots := 0, locals := 3680 })).room s m ([.ref u] : List Value).toArray below meth c H_j39 locs 0 0 (MQ below (py_Qv E L f s.heap.size (fun L1 f1 => (mi f u 3 + 2 ≤ mi f1 u 3 ∧ cdv f1 G u ≤ mi f1 u 3 ∧ mi f1 u 3 ≤ 170) ∧ (mi f1 u 4 = -1 → mi f1 u 5 = 0 ∧ mi f1 u 3 ≤ mi f u 2 ∧ clv f1 G u = clv f G u + 1) ∧ (clv f1 G u = clv f G u ∨ clv f1 G u = clv f G u + 1) ∧ (CX f f1 G u) ∧ (mi f1 u 4 = -1 → CO f1 G u (mi f u 14) (90 * mi f u 14 + clv f G u) ∧ arz f1 (G.2 u 12) (90 * mi f u 14 + clv f G u) ≤ cdv f1 G u) ∧ WF E G L1 f1 ∧ KP G [41, 42, 43, 44, 45, 46, 47, 13] false f f1 ∧ FK [3, 4, 5] f f1 u)) ([.ref u] : List Value).toArray s 0 0 (va_A (va_pl L f) s.heap.size)) (F0 m 39 ls []) := by
    intro L_j39 f_j39 H_j39 locs ls hWF hKP hX9 hX10 hX11 hX12 hFK hTR jv0 jv1 jv2 jv3 hw hl
    refine lv_aload_n G0.1 G0.2.1 dX12_clause_39 rfl (lv_at hl 1 rfl) ?_
    refine lv_dup G0.1 G0.2.1 dX12_clause_40 rfl ?_
    obtain ⟨v_48, v_49, v_50, v_51, v_52, v_53, v_54, v_55, v_56, v_57, v_58, v_59, y_60, v_61, v_62, v_63, v_64, v_65, y_66, v_67, y_68, v_69, hr_82, b_70, b_71, b_72, b_73, b_74, b_75, b_76, b_77, b_78, b_79, b_80, b_81⟩ := wg_12 hWF Tu
    have tq_83 := mi_row hr_82 2 rfl
    have tq_84 := mi_row hr_82 3 rfl
    have bv_50 := wf_free v_50
    have tq_85 := mi_row hr_82 4 rfl
    have bv_51 := wf_free v_51
    have tq_86 := mi_row hr_82 5 rfl
    have bv_52 := wf_free v_52
    have tq_87 := mi_row hr_82 14 rfl
    refine py_get (C := RX12) (T := TX12) (N := 54) (k := 3) (v := .int v_50) G0 hw in_X12_clause_X12 rfl hr_82 (by decide) (by decide +kernel) rfl dX12_clause_41 ?_
    refine lv_iconst (v := 1) G0.1 G0.2.1 dX12_clause_44 (by decide) ?_
    refine lv_iadd G0.1 G0.2.1 dX12_clause_45 ?_
    refine lv_topi (fun x_88 ex_88 => ?_)
    first | have tx_88 := ti_add ex_88 (by omega -splitDisjunctions) (by omega -splitDisjunctions) | skip
    refine py_put (C := RX12) (T := TX12) (N := 54) (k := 3) (v := .int x_88) (fs' := [.int v_48, .ref (G.2 u 1), .int v_49, .int x_88, .int v_51, .int v_52, .ref (G.2 u 6), .ref (G.2 u 7), .ref (G.2 u 8), .ref (G.2 u 9), .ref (G.2 u 10), .ref (G.2 u 11), .ref (G.2 u 12), .int v_53, .int v_54, .ref (G.2 u 15), .ref (G.2 u 16), .ref (G.2 u 17), .ref (G.2 u 18), .int v_55, .int v_56, .ref (G.2 u 21), .ref (G.2 u 22), .ref (G.2 u 23), .int v_57, .int v_58, .ref (G.2 u 26), .ref (G.2 u 27), .ref (G.2 u 28), .int v_59, .long y_60, .int v_61, .int v_62, .int v_63, .int v_64, .ref (G.2 u 35), .ref (G.2 u 36), .ref (G.2 u 37), .ref (G.2 u 38), .ref (G.2 u 39), .ref (G.2 u 40), .ref (G.2 u 41), .ref (G.2 u 42), .int v_65, .ref (G.2 u 44), .ref (G.2 u 45), .ref (G.2 u 46), .ref (G.2 u 47), .long y_66, .ref (G.2 u 49), .ref (G.2 u 50), .int v_67, .long y_68, .int v_69]) (ty0 := tyX12) G0 hw tyX12_ok nmX12 in_X12_clause_X12 rfl hr_82 (by decide) (by decide +kernel) rfl rfl rfl rfl (Nat.le_of_ble_eq_true rfl) rfl dX12_clause_46 (fun f_89 H_90 locs h_91 x_92 hw => ?_)
    have hX9 := hX9.same ((x_92 _ (hWF _ (by rw [wt12_9 hG Tu]; decide)).1 (wf_ne (wt12_9 hG Tu) Tu (by decide))).2)
    have hX10 := hX10.same ((x_92 _ (hWF _ (by rw [wt12_10 hG Tu]; decide)).1 (wf_ne (wt12_10 hG Tu) Tu (by decide))).2)
    have hX11 := hX11.same ((x_92 _ (hWF _ (by rw [wt12_11 hG Tu]; decide)).1 (wf_ne (wt12_11 hG Tu) Tu (by decide))).2)
    have hX12 := hX12.same ((x_92 _ (hWF _ (by rw [wt12_12 hG Tu]; decide)).1 (wf_ne (wt12_12 hG Tu) Tu (by decide))).2)
    have hFK := hFK.put hr_82 h_91 3 (by decide) rfl
    have cq_93 := cdv_own (f1 := f_j39) (f2 := f_89) hG hWF Tu x_92 (by have z1 := mi_row hr_82 14 rfl; have z2 := mi_row h_91 14 rfl; omega)
    have hTR := hTR.own hG hWF Tu x_92 (by have z1 := mi_row hr_82 14 rfl; have z2 := mi_row h_91 14 rfl; omega) (by intro q; have z1 := mi_row hr_82 4 rfl; have z2 := mi_row h_91 4 rfl; omega)
    have kq_94 := clv_own (f1 := f_j39) (f2 := f_89) hG hWF Tu x_92 (by have z1 := mi_row hr_82 14 rfl; have z2 := mi_row h_91 14 rfl; omega)
    have hKP := hKP.upd hWF x_92 Tu (Or.inl (by decide))
    have hWF := wf_upd hWF h_91 x_92 (by rw [Tu]; exact ⟨v_48, v_49, x_88, v_51, v_52, v_53, v_54, v_55, v_56, v_57, v_58, v_59, y_60, v_61, v_62, v_63, v_64, v_65, y_66, v_67, y_68, v_69, rfl, ⟨by omega, by omega⟩, ⟨by omega, by omega⟩, ⟨by omega, by omega⟩, ⟨by omega, by omega⟩, ⟨by omega, by omega⟩, ⟨by omega, by omega⟩, ⟨by omega, by omega⟩, ⟨by omega, by omega⟩, ⟨by omega, by omega⟩, ⟨by omega, by omega⟩, ⟨by omega, by omega⟩, ⟨by omega, by omega⟩⟩)
    have tq_95 := mi_row h_91 2 rfl
    have tq_96 := mi_row h_91 3 rfl
    have bx_88 := wf_free x_88
    have tq_97 := mi_row h_91 4 rfl
    have bv_51 := wf_free v_51
    have tq_98 := mi_row h_91 5 rfl
    have bv_52 := wf_free v_52
    have tq_99 := mi_row h_91 14 rfl
    refine lv_aload_n G0.1 G0.2.1 dX12_clause_49 rfl (lv_at hl 1 rfl) ?_
    refine py_get (C := RX12) (T := TX12) (N := 54) (k := 4) (v := .int v_51) G0 hw in_X12_clause_X12 rfl h_91 (by decide) (by decide +kernel) rfl dX12_clause_50 ?_
    refine lv_iconst (v := (-1)) G0.1 G0.2.1 dX12_clause_53 (by decide) ?_
    have jn_70 : ∀ (L_j70 : List Nat) (f_j70 : py_F) (H_j70 : Heap) (locs : List Loc) (ls : Array Slot), WF E G L_j70 f_j70 → KP G [41, 42, 43, 44, 45, 46, 47, 13] false f f_j70 → AX f f_j70 (G.2 u 9) (mi f u 14) → AX f f_j70 (G.2 u 10) (90 * mi f u 14 + clv f G u) → AX f f_j70 (G.2 u 11) (90 * mi f u 14 + clv f G u) → AX f f_j70 (G.2 u 12) (90 * mi f u 14 + clv f G u) → FK [3, 4, 5] f f_j70 u → TR f f_j70 G u (80) 0 0 → (mi f u 3 + 1 ≤ mi f_j70 u 3 ∧ mi f_j70 u 3 ≤ 161) → (cdv f_j70 G u = cdv f G u ∧ clv f_j70 G u = clv f G u ∧ mi f_j70 u 14 = mi f u 14) → (mi f_j70 u 4 = -1 → mi f_j70 u 3 < mi f u 2) → (mi f_j70 u 5 = 0 ∧ mi f_j70 u 2 = mi f u 2) → py_W E (va_A (va_pl L f) s.heap.size) s L_j70 f_j70 H_j70 locs → lv_has ls 3 [(1, .int x_47), (0, .ref u)] → W p l e (headSpec w_X12_clause ({ frames := 67, cells := 0, slots := 0, locals := 3680 })).room s m ([.ref u] : List Value).toArray below meth c H_j70 locs 0 0 (MQ below (py_Qv E L f s.heap.size (fun L1 f1 => (mi f u 3 + 2 ≤ mi f1 u 3 ∧ cdv f1 G u ≤ mi f1 u 3 ∧ mi f1 u 3 ≤ 170) ∧ (mi f1 u 4 = -1 → mi f1 u 5 = 0 ∧ mi f1 u 3 ≤ mi f u 2 ∧ clv f1 G u = clv f G u + 1) ∧ (clv f1 G u = clv f G u ∨ clv f1 G u = clv f G u + 1) ∧ (CX f f1 G u) ∧ (mi f1 u 4 = -1 → CO f1 G u (mi f u 14) (90 * mi f u 14 + clv f G u) ∧ arz f1 (G.2 u 12) (90 * mi f u 14 + clv f G u) ≤ cdv f1 G u) ∧ WF E G L1 f1 ∧ KP G [41, 42, 43, 44, 45, 46, 47, 13] false f f1 ∧ FK [3, 4, 5] f f1 u)) ([.ref u] : List Value).toArray s 0 0 (va_A (va_pl L f) s.heap.size)) (F0 m 70 ls []) := by
      intro L_j70 f_j70 H_j70 locs ls hWF hKP hX9 hX10 hX11 hX12 hFK hTR jv0 jv1 jv2 jv3 hw hl
      refine lv_aload_n G0.1 G0.2.1 dX12_clause_70 rfl (lv_at hl 1 rfl) ?_
      refine lv_dup G0.1 G0.2.1 dX12_clause_71 rfl ?_
      obtain ⟨v_100, v_101, v_102, v_103, v_104, v_105, v_106, v_107, v_108, v_109, v_110, v_111, y_112, v_113, v_114, v_115, v_116, v_117, y_118, v_119, y_120, v_121, hr_134, b_122, b_123, b_124, b_125, b_126, b_127, b_128, b_129, b_130, b_131, b_132, b_133⟩ := wg_12 hWF Tu
      have tq_135 := mi_row hr_134 2 rfl
      have tq_136 := mi_row hr_134 3 rfl
      have bv_102 := wf_free v_102
      have tq_137 := mi_row hr_134 4 rfl
      have bv_103 := wf_free v_103
      have tq_138 := mi_row hr_134 5 rfl
      have bv_104 := wf_free v_104
      have tq_139 := mi_row hr_134 14 rfl
      refine py_get (C := RX12) (T := TX12) (N := 54) (k := 3) (v := .int v_102) G0 hw in_X12_clause_X12 rfl hr_134 (by decide) (by decide +kernel) rfl dX12_clause_72 ?_
      refine lv_iconst (v := 1) G0.1 G0.2.1 dX12_clause_75 (by decide) ?_
      refine lv_iadd G0.1 G0.2.1 dX12_clause_76 ?_
      refine lv_topi (fun x_140 ex_140 => ?_)
      first | have tx_140 := ti_add ex_140 (by omega -splitDisjunctions) (by omega -splitDisjunctions) | skip
      refine py_put (C := RX12) (T := TX12) (N := 54) (k := 3) (v := .int x_140) (fs' := [.int v_100, .ref (G.2 u 1), .int v_101, .int x_140, .int v_103, .int v_104, .ref (G.2 u 6), .ref (G.2 u 7), .ref (G.2 u 8), .ref (G.2 u 9), .ref (G.2 u 10), .ref (G.2 u 11), .ref (G.2 u 12), .int v_105, .int v_106, .ref (G.2 u 15), .ref (G.2 u 16), .ref (G.2 u 17), .ref (G.2 u 18), .int v_107, .int v_108, .ref (G.2 u 21), .ref (G.2 u 22), .ref (G.2 u 23), .int v_109, .int v_110, .ref (G.2 u 26), .ref (G.2 u 27), .ref (G.2 u 28), .int v_111, .long y_112, .int v_113, .int v_114, .int v_115, .int v_116, .ref (G.2 u 35), .ref (G.2 u 36), .ref (G.2 u 37), .ref (G.2 u 38), .ref (G.2 u 39), .ref (G.2 u 40), .ref (G.2 u 41), .ref (G.2 u 42), .int v_117, .ref (G.2 u 44), .ref (G.2 u 45), .ref (G.2 u 46), .ref (G.2 u 47), .long y_118, .ref (G.2 u 49), .ref (G.2 u 50), .int v_119, .long y_120, .int v_121]) (ty0 := tyX12) G0 hw tyX12_ok nmX12 in_X12_clause_X12 rfl hr_134 (by decide) (by decide +kernel) rfl rfl rfl rfl (Nat.le_of_ble_eq_true rfl) rfl dX12_clause_77 (fun f_141 H_142 locs h_143 x_144 hw => ?_)
      have hX9 := hX9.same ((x_144 _ (hWF _ (by rw [wt12_9 hG Tu]; decide)).1 (wf_ne (wt12_9 hG Tu) Tu (by decide))).2)
      have hX10 := hX10.same ((x_144 _ (hWF _ (by rw [wt12_10 hG Tu]; decide)).1 (wf_ne (wt12_10 hG Tu) Tu (by decide))).2)
      have hX11 := hX11.same ((x_144 _ (hWF _ (by rw [wt12_11 hG Tu]; decide)).1 (wf_ne (wt12_11 hG Tu) Tu (by decide))).2)
      have hX12 := hX12.same ((x_144 _ (hWF _ (by rw [wt12_12 hG Tu]; decide)).1 (wf_ne (wt12_12 hG Tu) Tu (by decide))).2)
      have hFK := hFK.put hr_134 h_143 3 (by decide) rfl
      have cq_145 := cdv_own (f1 := f_j70) (f2 := f_141) hG hWF Tu x_144 (by have z1 := mi_row hr_134 14 rfl; have z2 := mi_row h_143 14 rfl; omega)
      have hTR := hTR.own hG hWF Tu x_144 (by have z1 := mi_row hr_134 14 rfl; have z2 := mi_row h_143 14 rfl; omega) (by intro q; have z1 := mi_row hr_134 4 rfl; have z2 := mi_row h_143 4 rfl; omega)
      have kq_146 := clv_own (f1 := f_j70) (f2 := f_141) hG hWF Tu x_144 (by have z1 := mi_row hr_134 14 rfl; have z2 := mi_row h_143 14 rfl; omega)
      have hKP := hKP.upd hWF x_144 Tu (Or.inl (by decide))
      have hWF := wf_upd hWF h_143 x_144 (by rw [Tu]; exact ⟨v_100, v_101, x_140, v_103, v_104, v_105, v_106, v_107, v_108, v_109, v_110, v_111, y_112, v_113, v_114, v_115, v_116, v_117, y_118, v_119, y_120, v_121, rfl, ⟨by omega, by omega⟩, ⟨by omega, by omega⟩, ⟨by omega, by omega⟩, ⟨by omega, by omega⟩, ⟨by omega, by omega⟩, ⟨by omega, by omega⟩, ⟨by omega, by omega⟩, ⟨by omega, by omega⟩, ⟨by omega, by omega⟩, ⟨by omega, by omega⟩, ⟨by omega, by omega⟩, ⟨by omega, by omega⟩⟩)
      have tq_147 := mi_row h_143 2 rfl
      have tq_148 := mi_row h_143 3 rfl
      have bx_140 := wf_free x_140
      have tq_149 := mi_row h_143 4 rfl
      have bv_103 := wf_free v_103
      have tq_150 := mi_row h_143 5 rfl
      have bv_104 := wf_free v_104
      have tq_151 := mi_row h_143 14 rfl
      refine lv_aload_n G0.1 G0.2.1 dX12_clause_80 rfl (lv_at hl 1 rfl) ?_
      refine py_get (C := RX12) (T := TX12) (N := 54) (k := 4) (v := .int v_103) G0 hw in_X12_clause_X12 rfl h_143 (by decide) (by decide +kernel) rfl dX12_clause_81 ?_
      refine lv_iconst (v := (-1)) G0.1 G0.2.1 dX12_clause_84 (by decide) ?_
      refine lv_icmp_eq (tgt := 89) G0.1 G0.2.1 dX12_clause_85 (by decide) (fun c_152 => ?_) (fun c_152 => ?_)
      · skip
        have tc_152 := ti_eq c_152
        refine lv_aload_n G0.1 G0.2.1 dX12_clause_89 rfl (lv_at hl 1 rfl) ?_
        refine py_get (C := RX12) (T := TX12) (N := 54) (k := 10) (v := .ref (G.2 u 10)) G0 hw in_X12_clause_X12 rfl h_143 (by decide) (by decide +kernel) rfl dX12_clause_90 ?_
        refine lv_iload_n G0.1 G0.2.1 dX12_clause_93 rfl (lv_at hl 0 rfl) ?_
        refine lv_aload_n G0.1 G0.2.1 dX12_clause_94 rfl (lv_at hl 1 rfl) ?_
        refine py_get (C := RX12) (T := TX12) (N := 54) (k := 8) (v := .ref (G.2 u 8)) G0 hw in_X12_clause_X12 rfl h_143 (by decide) (by decide +kernel) rfl dX12_clause_95 ?_
        refine lv_aload_n G0.1 G0.2.1 dX12_clause_98 rfl (lv_at hl 1 rfl) ?_
        refine py_get (C := RX12) (T := TX12) (N := 54) (k := 14) (v := .int v_106) G0 hw in_X12_clause_X12 rfl h_143 (by decide) (by decide +kernel) rfl dX12_clause_99 ?_
        obtain ⟨g_153, ha_154, hi_155⟩ := wf_arr (n := 5) (lo := 0) (hi := 340) hWF (wt12_8 hG Tu) (by decide) (fun _ => rfl)
        have rg_156 : vp_in v_106 5 := ti_in (by omega) (by omega)
        refine py_iald G0 hw ha_154 rg_156 dX12_clause_102 ?_
        refine lv_topi (fun x_157 ex_157 => ?_)
        have bx_157 := ti_at hi_155 rg_156 ex_157
        have zx_157 := arz_ld ha_154 ex_157
        have hcxx_157 := cdv_ld h_143 rfl ha_154 ex_157
        obtain ⟨g_158, ha_159, hi_160⟩ := wf_arr (n := 450) (lo := (-2147483648)) (hi := 2147483647) hWF (wt12_10 hG Tu) (by decide) (fun _ => rfl)
        have rg_161 : vp_in x_47 450 := ti_in (by omega) (by omega)
        refine py_iast G0 hw ha_159 rg_161 dX12_clause_103 (fun f_162 H_163 locs h_164 x_165 hw => ?_)
        have hkw : KP G [45] false f_141 f_162 := KP.refl.upd hWF x_165 (wt12_10 hG Tu) (Or.inl (by decide))
        have hX9 := hX9.same ((x_165 _ (hWF _ (by rw [wt12_9 hG Tu]; decide)).1 (wf_ne (wt12_9 hG Tu) (wt12_10 hG Tu) (by decide))).2)
        have hX11 := hX11.same ((x_165 _ (hWF _ (by rw [wt12_11 hG Tu]; decide)).1 (wf_ne (wt12_11 hG Tu) (wt12_10 hG Tu) (by decide))).2)
        have hX12 := hX12.same ((x_165 _ (hWF _ (by rw [wt12_12 hG Tu]; decide)).1 (wf_ne (wt12_12 hG Tu) (wt12_10 hG Tu) (by decide))).2)
        have hFK := hFK.same ((x_165 _ (hWF _ (by rw [Tu]; decide)).1 (wf_ne Tu (wt12_10 hG Tu) (by decide))).2)
        have cq_166 := cdv_kp (f := f_141) (f1 := f_162) (m := u) (x_165 _ (hWF _ (by rw [wt12_8 hG Tu]; decide)).1 (wf_ne (wt12_8 hG Tu) (wt12_10 hG Tu) (by decide))).2 (mi_kp (x_165 u (hWF u (by rw [Tu]; decide)).1 (wf_ne Tu (wt12_10 hG Tu) (by decide))).2 14)
        have kq_167 := clv_kp (f := f_141) (f1 := f_162) (m := u) (x_165 _ (hWF _ (by rw [wt12_9 hG Tu]; decide)).1 (wf_ne (wt12_9 hG Tu) (wt12_10 hG Tu) (by decide))).2 (mi_kp (x_165 u (hWF u (by rw [Tu]; decide)).1 (wf_ne Tu (wt12_10 hG Tu) (by decide))).2 14)
        have hTR := hTR.same (f2 := f_162) (x_165 _ (hWF _ (by rw [wt12_6 hG Tu]; decide)).1 (wf_ne (wt12_6 hG Tu) (wt12_10 hG Tu) (by decide))).2 (x_165 _ (hWF _ (by rw [wt12_7 hG Tu]; decide)).1 (wf_ne (wt12_7 hG Tu) (wt12_10 hG Tu) (by decide))).2 (x_165 _ (hWF _ (by rw [wt12_8 hG Tu]; decide)).1 (wf_ne (wt12_8 hG Tu) (wt12_10 hG Tu) (by decide))).2 (mi_kp (x_165 u (hWF u (by rw [Tu]; decide)).1 (wf_ne Tu (wt12_10 hG Tu) (by decide))).2 14) (fun q => by have hz := mi_kp (x_165 u (hWF u (by rw [Tu]; decide)).1 (wf_ne Tu (wt12_10 hG Tu) (by decide))).2 4; omega)
        have hKP := hKP.upd hWF x_165 (wt12_10 hG Tu) (Or.inl (by decide))
        have hi_168 := wf_inu (k := (x_47 : Int32).toNatClampNeg) (x := x_157) hi_160 (wf_free x_157).1 (wf_free x_157).2
        have hWF := wf_upd hWF h_164 x_165 (by rw [(wt12_10 hG Tu)]; exact ⟨_, rfl, hi_168⟩)
        have h_143 := h_143.ext x_165 (py_ne_arr h_143 ha_159)
        have tq_169 := mi_row h_143 2 rfl
        have tq_170 := mi_row h_143 3 rfl
        have bx_140 := wf_free x_140
        have tq_171 := mi_row h_143 4 rfl
        have bv_103 := wf_free v_103
        have tq_172 := mi_row h_143 5 rfl
        have bv_104 := wf_free v_104
        have tq_173 := mi_row h_143 14 rfl
        have ha_154 := ha_154.ext x_165 (wf_ne (wt12_8 hG Tu) (wt12_10 hG Tu) (by decide))
        have hX10 := hX10.up ha_159 h_164 (by omega) (by omega)
        have hV10 : arz f_162 (G.2 u 10) (90 * mi f u 14 + clv f G u) = cdv f G u := by rw [show (90 * mi f u 14 + clv f G u) = x_47.toInt by omega, (arz_up ha_159 h_164 (by omega)).1]; omega
        refine lv_aload_n G0.1 G0.2.1 dX12_clause_104 rfl (lv_at hl 1 rfl) ?_
        refine py_calli hw (va_runV (As := []) (rest := []) G0 (c_X12_look l E G L_j70 f_162 H_163.size u hG hWF Tu (show 0 ≤ mi f_162 u 3 ∧ mi f_162 u 3 ≤ mi f_162 u 2 by omega)) (cwV 0 G0.2.2.2.2 g_X12_clause_X12_look_146 rfl rfl rfl (by decide +kernel) ⟨(Nat.le_of_ble_eq_true rfl), (Nat.le_of_ble_eq_true rfl)⟩) (py_preV hw (C := RX12) (T := TX12) (N := 54) rfl h_143) rfl rfl hl.1 rfl (lv_room (Nat.le_of_ble_eq_true rfl)) dX12_clause_105 ⟨(Nat.le_of_ble_eq_true rfl), (Nat.le_of_ble_eq_true rfl)⟩) (fun r_178 L_174 f_175 H_176 locs hp_177 hw => ?_)
        obtain ⟨en_179, en_180, en_181, hWF, kp_182, fk_183⟩ := hp_177
        have hX9 := hX9.same (kp_f kp_182 (wt12_9 hG Tu) (by decide) (by decide) (fun _ => by decide))
        have hX10 := hX10.same (kp_f kp_182 (wt12_10 hG Tu) (by decide) (by decide) (fun _ => by decide))
        have hX11 := hX11.same (kp_f kp_182 (wt12_11 hG Tu) (by decide) (by decide) (fun _ => by decide))
        have hX12 := hX12.same (kp_f kp_182 (wt12_12 hG Tu) (by decide) (by decide) (fun _ => by decide))
        have hV10 := (arz_kp (kp_f kp_182 (wt12_10 hG Tu) (by decide) (by decide) (fun _ => by decide)) _).trans hV10
        have cq_184 := cdv_k hG Tu kp_182 fk_183 (by decide)
        have kq_185 := clv_k hG Tu kp_182 fk_183 (by decide)
        have hFK := hFK.trans fk_183 (by decide)
        have hKP := hKP.trans kp_182 (by decide) (by decide)
        obtain ⟨v_186, hr_187⟩ := fk_3 hWF Tu fk_183 h_143
        have tq_188 := mi_row hr_187 2 rfl
        have tq_189 := mi_row hr_187 3 rfl
        have bv_186 := wf_free v_186
        have tq_190 := mi_row hr_187 4 rfl
        have bv_103 := wf_free v_103
        have tq_191 := mi_row hr_187 5 rfl
        have bv_104 := wf_free v_104
        have tq_192 := mi_row hr_187 14 rfl
        have h_164 := kp_at kp_182 hWF (wt12_10 hG Tu) (by decide) (by decide) (by decide) h_164
        have ha_154 := kp_at kp_182 hWF (wt12_8 hG Tu) (by decide) (by decide) (by decide) ha_154
        have hTR := hTR.kp hG Tu kp_182 fk_183 (by decide) (fun q => by omega)
        have br_178 := wf_free r_178
        refine lv_bipush (v := 33) G0.1 G0.2.1 dX12_clause_108 (by decide) ?_
        refine lv_icmp_eq (tgt := 122) G0.1 G0.2.1 dX12_clause_110 (by decide) (fun c_193 => ?_) (fun c_193 => ?_)
        · skip
          have tc_193 := ti_eq c_193
          replace en_180 := en_180 (by omega)
          refine lv_iconst (v := 1) G0.1 G0.2.1 dX12_clause_122 (by decide) ?_
          refine lv_goto (tgt := 127) G0.1 G0.2.1 dX12_clause_123 (by decide) ?_
          refine lv_istore_n (lv' := [(2, .int 1), (1, .int x_47), (0, .ref u)]) G0.1 G0.2.1 dX12_clause_127 rfl hl (by decide) rfl (fun ls hl => ?_)
          refine lv_iload_n G0.1 G0.2.1 dX12_clause_128 rfl (lv_at hl 0 rfl) ?_
          refine lv_if_eq (tgt := 139) G0.1 G0.2.1 dX12_clause_129 (by decide) (fun c_194 => ?_) (fun c_194 => ?_)
          · skip
            exact absurd c_194 (by decide)
          · skip
            have tc_194 := ti_ne c_194
            refine lv_aload_n G0.1 G0.2.1 dX12_clause_132 rfl (lv_at hl 2 rfl) ?_
            refine py_callv hw (va_runV (As := []) (rest := []) G0 (rq_condition l E G hG L_174 f_175 H_176.size u hWF Tu (show mi f_175 u 4 = -1 ∧ 0 ≤ mi f_175 u 5 ∧ mi f_175 u 5 ≤ 6 ∧ 0 ≤ mi f_175 u 3 ∧ mi f_175 u 3 ≤ mi f_175 u 2 ∧ cdv f_175 G u ≤ mi f_175 u 3 by omega)) (cwV 0 G0.2.2.2.2 g_X12_clause_X12_condition_186 rfl rfl rfl (by decide +kernel) ⟨(Nat.le_of_ble_eq_true rfl), (Nat.le_of_ble_eq_true rfl)⟩) (py_preV hw (C := RX12) (T := TX12) (N := 54) rfl hr_187) rfl rfl hl.1 rfl (lv_room (Nat.le_of_ble_eq_true rfl)) dX12_clause_133 ⟨(Nat.le_of_ble_eq_true rfl), (Nat.le_of_ble_eq_true rfl)⟩) (fun L_195 f_196 H_197 locs hp_198 hw => ?_)
            obtain ⟨en_200, en_201, en_202, hWF, kp_203, fk_204⟩ := hp_198
            have hX9 := hX9.same (kp_f kp_203 (wt12_9 hG Tu) (by decide) (by decide) (fun _ => by decide))
            have hX10 := hX10.same (kp_f kp_203 (wt12_10 hG Tu) (by decide) (by decide) (fun _ => by decide))
            have hX11 := hX11.same (kp_f kp_203 (wt12_11 hG Tu) (by decide) (by decide) (fun _ => by decide))
            have hX12 := hX12.same (kp_f kp_203 (wt12_12 hG Tu) (by decide) (by decide) (fun _ => by decide))
            have hV10 := (arz_kp (kp_f kp_203 (wt12_10 hG Tu) (by decide) (by decide) (fun _ => by decide)) _).trans hV10
            have kq_205 := clv_k hG Tu kp_203 fk_204 (by decide)
            have hFK := hFK.trans fk_204 (by decide)
            have hKP := hKP.trans kp_203 (by decide) (by decide)
            obtain ⟨v_206, v_207, v_208, hr_209⟩ := fk_3_4_5 hWF Tu fk_204 hr_187
            have tq_210 := mi_row hr_209 2 rfl
            have tq_211 := mi_row hr_209 3 rfl
            have bv_206 := wf_free v_206
            have tq_212 := mi_row hr_209 4 rfl
            have bv_207 := wf_free v_207
            have tq_213 := mi_row hr_209 5 rfl
            have bv_208 := wf_free v_208
            have tq_214 := mi_row hr_209 14 rfl
            have h_164 := kp_at kp_203 hWF (wt12_10 hG Tu) (by decide) (by decide) (by decide) h_164
            have hTR : TR f f_196 G u (80) 0 1 := hTR.trans (en_202.lift (b := 0) (by omega) (by omega) (by omega) (by omega)) (fun q => by omega)
            refine lv_goto (tgt := 183) G0.1 G0.2.1 dX12_clause_136 (by decide) ?_
            refine lv_aload_n G0.1 G0.2.1 dX12_clause_183 rfl (lv_at hl 2 rfl) ?_
            refine py_get (C := RX12) (T := TX12) (N := 54) (k := 11) (v := .ref (G.2 u 11)) G0 hw in_X12_clause_X12 rfl hr_209 (by decide) (by decide +kernel) rfl dX12_clause_184 ?_
            refine lv_iload_n G0.1 G0.2.1 dX12_clause_187 rfl (lv_at hl 1 rfl) ?_
            refine lv_aload_n G0.1 G0.2.1 dX12_clause_188 rfl (lv_at hl 2 rfl) ?_
            refine py_get (C := RX12) (T := TX12) (N := 54) (k := 10) (v := .ref (G.2 u 10)) G0 hw in_X12_clause_X12 rfl hr_209 (by decide) (by decide +kernel) rfl dX12_clause_189 ?_
            refine lv_iload_n G0.1 G0.2.1 dX12_clause_192 rfl (lv_at hl 1 rfl) ?_
            have rg_215 : vp_in x_47 450 := ti_in (by omega) (by omega)
            refine py_iald G0 hw h_164 rg_215 dX12_clause_193 ?_
            refine lv_topi (fun x_216 ex_216 => ?_)
            have bx_216 := wf_free x_216
            have zx_216 := arz_ld h_164 ex_216
            obtain ⟨g_217, ha_218, hi_219⟩ := wf_arr (n := 450) (lo := (-2147483648)) (hi := 2147483647) hWF (wt12_11 hG Tu) (by decide) (fun _ => rfl)
            have rg_220 : vp_in x_47 450 := ti_in (by omega) (by omega)
            refine py_iast G0 hw ha_218 rg_220 dX12_clause_194 (fun f_221 H_222 locs h_223 x_224 hw => ?_)
            have hkw : KP G [46] false f_196 f_221 := KP.refl.upd hWF x_224 (wt12_11 hG Tu) (Or.inl (by decide))
            have hX9 := hX9.same ((x_224 _ (hWF _ (by rw [wt12_9 hG Tu]; decide)).1 (wf_ne (wt12_9 hG Tu) (wt12_11 hG Tu) (by decide))).2)
            have hX10 := hX10.same ((x_224 _ (hWF _ (by rw [wt12_10 hG Tu]; decide)).1 (wf_ne (wt12_10 hG Tu) (wt12_11 hG Tu) (by decide))).2)
            have hX12 := hX12.same ((x_224 _ (hWF _ (by rw [wt12_12 hG Tu]; decide)).1 (wf_ne (wt12_12 hG Tu) (wt12_11 hG Tu) (by decide))).2)
            have hV10 := (arz_kp ((x_224 _ (hWF _ (by rw [wt12_10 hG Tu]; decide)).1 (wf_ne (wt12_10 hG Tu) (wt12_11 hG Tu) (by decide))).2) _).trans hV10
            have hFK := hFK.same ((x_224 _ (hWF _ (by rw [Tu]; decide)).1 (wf_ne Tu (wt12_11 hG Tu) (by decide))).2)
            have cq_225 := cdv_kp (f := f_196) (f1 := f_221) (m := u) (x_224 _ (hWF _ (by rw [wt12_8 hG Tu]; decide)).1 (wf_ne (wt12_8 hG Tu) (wt12_11 hG Tu) (by decide))).2 (mi_kp (x_224 u (hWF u (by rw [Tu]; decide)).1 (wf_ne Tu (wt12_11 hG Tu) (by decide))).2 14)
            have kq_226 := clv_kp (f := f_196) (f1 := f_221) (m := u) (x_224 _ (hWF _ (by rw [wt12_9 hG Tu]; decide)).1 (wf_ne (wt12_9 hG Tu) (wt12_11 hG Tu) (by decide))).2 (mi_kp (x_224 u (hWF u (by rw [Tu]; decide)).1 (wf_ne Tu (wt12_11 hG Tu) (by decide))).2 14)
            have hTR := hTR.same (f2 := f_221) (x_224 _ (hWF _ (by rw [wt12_6 hG Tu]; decide)).1 (wf_ne (wt12_6 hG Tu) (wt12_11 hG Tu) (by decide))).2 (x_224 _ (hWF _ (by rw [wt12_7 hG Tu]; decide)).1 (wf_ne (wt12_7 hG Tu) (wt12_11 hG Tu) (by decide))).2 (x_224 _ (hWF _ (by rw [wt12_8 hG Tu]; decide)).1 (wf_ne (wt12_8 hG Tu) (wt12_11 hG Tu) (by decide))).2 (mi_kp (x_224 u (hWF u (by rw [Tu]; decide)).1 (wf_ne Tu (wt12_11 hG Tu) (by decide))).2 14) (fun q => by have hz := mi_kp (x_224 u (hWF u (by rw [Tu]; decide)).1 (wf_ne Tu (wt12_11 hG Tu) (by decide))).2 4; omega)
            have hKP := hKP.upd hWF x_224 (wt12_11 hG Tu) (Or.inl (by decide))
            have hi_227 := wf_inu (k := (x_47 : Int32).toNatClampNeg) (x := x_216) hi_219 (wf_free x_216).1 (wf_free x_216).2
            have hWF := wf_upd hWF h_223 x_224 (by rw [(wt12_11 hG Tu)]; exact ⟨_, rfl, hi_227⟩)
            have hr_209 := hr_209.ext x_224 (py_ne_arr hr_209 ha_218)
            have tq_228 := mi_row hr_209 2 rfl
            have tq_229 := mi_row hr_209 3 rfl
            have bv_206 := wf_free v_206
            have tq_230 := mi_row hr_209 4 rfl
            have bv_207 := wf_free v_207
            have tq_231 := mi_row hr_209 5 rfl
            have bv_208 := wf_free v_208
            have tq_232 := mi_row hr_209 14 rfl
            have h_164 := h_164.ext x_224 (wf_ne (wt12_10 hG Tu) (wt12_11 hG Tu) (by decide))
            have hX11 := hX11.up ha_218 h_223 (by omega) (by omega)
            have hV11 : arz f_221 (G.2 u 11) (90 * mi f u 14 + clv f G u) = cdv f G u := by rw [show (90 * mi f u 14 + clv f G u) = x_47.toInt by omega, (arz_up ha_218 h_223 (by omega)).1]; omega
            refine lv_iload_n G0.1 G0.2.1 dX12_clause_195 rfl (lv_at hl 0 rfl) ?_
            refine lv_if_eq (tgt := 250) G0.1 G0.2.1 dX12_clause_196 (by decide) (fun c_233 => ?_) (fun c_233 => ?_)
            · skip
              exact absurd c_233 (by decide)
            · skip
              have tc_233 := ti_ne c_233
              refine lv_aload_n G0.1 G0.2.1 dX12_clause_199 rfl (lv_at hl 2 rfl) ?_
              refine py_get (C := RX12) (T := TX12) (N := 54) (k := 4) (v := .int v_207) G0 hw in_X12_clause_X12 rfl hr_209 (by decide) (by decide +kernel) rfl dX12_clause_200 ?_
              refine lv_iconst (v := (-1)) G0.1 G0.2.1 dX12_clause_203 (by decide) ?_
              refine lv_icmp_ne (tgt := 250) G0.1 G0.2.1 dX12_clause_204 (by decide) (fun c_234 => ?_) (fun c_234 => ?_)
              · skip
                have tc_234 := ti_ne c_234
                clear en_201
                refine lv_aload_n G0.1 G0.2.1 dX12_clause_250 rfl (lv_at hl 2 rfl) ?_
                refine py_get (C := RX12) (T := TX12) (N := 54) (k := 12) (v := .ref (G.2 u 12)) G0 hw in_X12_clause_X12 rfl hr_209 (by decide) (by decide +kernel) rfl dX12_clause_251 ?_
                refine lv_iload_n G0.1 G0.2.1 dX12_clause_254 rfl (lv_at hl 1 rfl) ?_
                refine lv_aload_n G0.1 G0.2.1 dX12_clause_255 rfl (lv_at hl 2 rfl) ?_
                refine py_get (C := RX12) (T := TX12) (N := 54) (k := 8) (v := .ref (G.2 u 8)) G0 hw in_X12_clause_X12 rfl hr_209 (by decide) (by decide +kernel) rfl dX12_clause_256 ?_
                refine lv_aload_n G0.1 G0.2.1 dX12_clause_259 rfl (lv_at hl 2 rfl) ?_
                refine py_get (C := RX12) (T := TX12) (N := 54) (k := 14) (v := .int v_106) G0 hw in_X12_clause_X12 rfl hr_209 (by decide) (by decide +kernel) rfl dX12_clause_260 ?_
                obtain ⟨g_235, ha_236, hi_237⟩ := wf_arr (n := 5) (lo := 0) (hi := 340) hWF (wt12_8 hG Tu) (by decide) (fun _ => rfl)
                have rg_238 : vp_in v_106 5 := ti_in (by omega) (by omega)
                refine py_iald G0 hw ha_236 rg_238 dX12_clause_263 ?_
                refine lv_topi (fun x_239 ex_239 => ?_)
                have bx_239 := ti_at hi_237 rg_238 ex_239
                have zx_239 := arz_ld ha_236 ex_239
                have hcxx_239 := cdv_ld hr_209 rfl ha_236 ex_239
                obtain ⟨g_240, ha_241, hi_242⟩ := wf_arr (n := 450) (lo := (-2147483648)) (hi := 2147483647) hWF (wt12_12 hG Tu) (by decide) (fun _ => rfl)
                have rg_243 : vp_in x_47 450 := ti_in (by omega) (by omega)
                refine py_iast G0 hw ha_241 rg_243 dX12_clause_264 (fun f_244 H_245 locs h_246 x_247 hw => ?_)
                have hkw : KP G [47] false f_221 f_244 := KP.refl.upd hWF x_247 (wt12_12 hG Tu) (Or.inl (by decide))
                have hX9 := hX9.same ((x_247 _ (hWF _ (by rw [wt12_9 hG Tu]; decide)).1 (wf_ne (wt12_9 hG Tu) (wt12_12 hG Tu) (by decide))).2)
                have hX10 := hX10.same ((x_247 _ (hWF _ (by rw [wt12_10 hG Tu]; decide)).1 (wf_ne (wt12_10 hG Tu) (wt12_12 hG Tu) (by decide))).2)
                have hX11 := hX11.same ((x_247 _ (hWF _ (by rw [wt12_11 hG Tu]; decide)).1 (wf_ne (wt12_11 hG Tu) (wt12_12 hG Tu) (by decide))).2)
                have hV10 := (arz_kp ((x_247 _ (hWF _ (by rw [wt12_10 hG Tu]; decide)).1 (wf_ne (wt12_10 hG Tu) (wt12_12 hG Tu) (by decide))).2) _).trans hV10
                have hV11 := (arz_kp ((x_247 _ (hWF _ (by rw [wt12_11 hG Tu]; decide)).1 (wf_ne (wt12_11 hG Tu) (wt12_12 hG Tu) (by decide))).2) _).trans hV11
                have hFK := hFK.same ((x_247 _ (hWF _ (by rw [Tu]; decide)).1 (wf_ne Tu (wt12_12 hG Tu) (by decide))).2)
                have cq_248 := cdv_kp (f := f_221) (f1 := f_244) (m := u) (x_247 _ (hWF _ (by rw [wt12_8 hG Tu]; decide)).1 (wf_ne (wt12_8 hG Tu) (wt12_12 hG Tu) (by decide))).2 (mi_kp (x_247 u (hWF u (by rw [Tu]; decide)).1 (wf_ne Tu (wt12_12 hG Tu) (by decide))).2 14)
                have kq_249 := clv_kp (f := f_221) (f1 := f_244) (m := u) (x_247 _ (hWF _ (by rw [wt12_9 hG Tu]; decide)).1 (wf_ne (wt12_9 hG Tu) (wt12_12 hG Tu) (by decide))).2 (mi_kp (x_247 u (hWF u (by rw [Tu]; decide)).1 (wf_ne Tu (wt12_12 hG Tu) (by decide))).2 14)
                have hTR := hTR.same (f2 := f_244) (x_247 _ (hWF _ (by rw [wt12_6 hG Tu]; decide)).1 (wf_ne (wt12_6 hG Tu) (wt12_12 hG Tu) (by decide))).2 (x_247 _ (hWF _ (by rw [wt12_7 hG Tu]; decide)).1 (wf_ne (wt12_7 hG Tu) (wt12_12 hG Tu) (by decide))).2 (x_247 _ (hWF _ (by rw [wt12_8 hG Tu]; decide)).1 (wf_ne (wt12_8 hG Tu) (wt12_12 hG Tu) (by decide))).2 (mi_kp (x_247 u (hWF u (by rw [Tu]; decide)).1 (wf_ne Tu (wt12_12 hG Tu) (by decide))).2 14) (fun q => by have hz := mi_kp (x_247 u (hWF u (by rw [Tu]; decide)).1 (wf_ne Tu (wt12_12 hG Tu) (by decide))).2 4; omega)
                have hKP := hKP.upd hWF x_247 (wt12_12 hG Tu) (Or.inl (by decide))
                have hi_250 := wf_inu (k := (x_47 : Int32).toNatClampNeg) (x := x_239) hi_242 (wf_free x_239).1 (wf_free x_239).2
                have hWF := wf_upd hWF h_246 x_247 (by rw [(wt12_12 hG Tu)]; exact ⟨_, rfl, hi_250⟩)
                have hr_209 := hr_209.ext x_247 (py_ne_arr hr_209 ha_241)
                have tq_251 := mi_row hr_209 2 rfl
                have tq_252 := mi_row hr_209 3 rfl
                have bv_206 := wf_free v_206
                have tq_253 := mi_row hr_209 4 rfl
                have bv_207 := wf_free v_207
                have tq_254 := mi_row hr_209 5 rfl
                have bv_208 := wf_free v_208
                have tq_255 := mi_row hr_209 14 rfl
                have h_223 := h_223.ext x_247 (wf_ne (wt12_11 hG Tu) (wt12_12 hG Tu) (by decide))
                have h_164 := h_164.ext x_247 (wf_ne (wt12_10 hG Tu) (wt12_12 hG Tu) (by decide))
                have ha_236 := ha_236.ext x_247 (wf_ne (wt12_8 hG Tu) (wt12_12 hG Tu) (by decide))
                have hX12 := hX12.up ha_241 h_246 (by omega) (by omega)
                have hV12 : arz f_244 (G.2 u 12) (90 * mi f u 14 + clv f G u) = cdv f_244 G u := by rw [show (90 * mi f u 14 + clv f G u) = x_47.toInt by omega, (arz_up ha_241 h_246 (by omega)).1]; omega
                refine lv_aload_n G0.1 G0.2.1 dX12_clause_265 rfl (lv_at hl 2 rfl) ?_
                refine py_get (C := RX12) (T := TX12) (N := 54) (k := 9) (v := .ref (G.2 u 9)) G0 hw in_X12_clause_X12 rfl hr_209 (by decide) (by decide +kernel) rfl dX12_clause_266 ?_
                refine lv_aload_n G0.1 G0.2.1 dX12_clause_269 rfl (lv_at hl 2 rfl) ?_
                refine py_get (C := RX12) (T := TX12) (N := 54) (k := 14) (v := .int v_106) G0 hw in_X12_clause_X12 rfl hr_209 (by decide) (by decide +kernel) rfl dX12_clause_270 ?_
                refine lv_dup2_11 G0.1 G0.2.1 dX12_clause_273 rfl rfl ?_
                obtain ⟨g_256, ha_257, hi_258⟩ := wf_arr (n := 5) (lo := 0) (hi := 90) hWF (wt12_9 hG Tu) (by decide) (fun _ => rfl)
                have rg_259 : vp_in v_106 5 := ti_in (by omega) (by omega)
                refine py_iald G0 hw ha_257 rg_259 dX12_clause_274 ?_
                refine lv_topi (fun x_260 ex_260 => ?_)
                have bx_260 := ti_at hi_258 rg_259 ex_260
                have zx_260 := arz_ld ha_257 ex_260
                have hkxx_260 := clv_ld hr_209 rfl ha_257 ex_260
                refine lv_iconst (v := 1) G0.1 G0.2.1 dX12_clause_275 (by decide) ?_
                refine lv_iadd G0.1 G0.2.1 dX12_clause_276 ?_
                refine lv_topi (fun x_261 ex_261 => ?_)
                first | have tx_261 := ti_add ex_261 (by omega -splitDisjunctions) (by omega -splitDisjunctions) | skip
                have rg_262 : vp_in v_106 5 := ti_in (by omega) (by omega)
                refine py_iast G0 hw ha_257 rg_262 dX12_clause_277 (fun f_263 H_264 locs h_265 x_266 hw => ?_)
                have hkw : KP G [44] false f_244 f_263 := KP.refl.upd hWF x_266 (wt12_9 hG Tu) (Or.inl (by decide))
                have hX10 := hX10.same ((x_266 _ (hWF _ (by rw [wt12_10 hG Tu]; decide)).1 (wf_ne (wt12_10 hG Tu) (wt12_9 hG Tu) (by decide))).2)
                have hX11 := hX11.same ((x_266 _ (hWF _ (by rw [wt12_11 hG Tu]; decide)).1 (wf_ne (wt12_11 hG Tu) (wt12_9 hG Tu) (by decide))).2)
                have hX12 := hX12.same ((x_266 _ (hWF _ (by rw [wt12_12 hG Tu]; decide)).1 (wf_ne (wt12_12 hG Tu) (wt12_9 hG Tu) (by decide))).2)
                have hV10 := (arz_kp ((x_266 _ (hWF _ (by rw [wt12_10 hG Tu]; decide)).1 (wf_ne (wt12_10 hG Tu) (wt12_9 hG Tu) (by decide))).2) _).trans hV10
                have hV11 := (arz_kp ((x_266 _ (hWF _ (by rw [wt12_11 hG Tu]; decide)).1 (wf_ne (wt12_11 hG Tu) (wt12_9 hG Tu) (by decide))).2) _).trans hV11
                have hV12 := (arz_kp ((x_266 _ (hWF _ (by rw [wt12_12 hG Tu]; decide)).1 (wf_ne (wt12_12 hG Tu) (wt12_9 hG Tu) (by decide))).2) _).trans hV12
                have hFK := hFK.same ((x_266 _ (hWF _ (by rw [Tu]; decide)).1 (wf_ne Tu (wt12_9 hG Tu) (by decide))).2)
                have cq_267 := cdv_kp (f := f_244) (f1 := f_263) (m := u) (x_266 _ (hWF _ (by rw [wt12_8 hG Tu]; decide)).1 (wf_ne (wt12_8 hG Tu) (wt12_9 hG Tu) (by decide))).2 (mi_kp (x_266 u (hWF u (by rw [Tu]; decide)).1 (wf_ne Tu (wt12_9 hG Tu) (by decide))).2 14)
                have hTR := hTR.same (f2 := f_263) (x_266 _ (hWF _ (by rw [wt12_6 hG Tu]; decide)).1 (wf_ne (wt12_6 hG Tu) (wt12_9 hG Tu) (by decide))).2 (x_266 _ (hWF _ (by rw [wt12_7 hG Tu]; decide)).1 (wf_ne (wt12_7 hG Tu) (wt12_9 hG Tu) (by decide))).2 (x_266 _ (hWF _ (by rw [wt12_8 hG Tu]; decide)).1 (wf_ne (wt12_8 hG Tu) (wt12_9 hG Tu) (by decide))).2 (mi_kp (x_266 u (hWF u (by rw [Tu]; decide)).1 (wf_ne Tu (wt12_9 hG Tu) (by decide))).2 14) (fun q => by have hz := mi_kp (x_266 u (hWF u (by rw [Tu]; decide)).1 (wf_ne Tu (wt12_9 hG Tu) (by decide))).2 4; omega)
                have hKP := hKP.upd hWF x_266 (wt12_9 hG Tu) (Or.inl (by decide))
                have hi_268 := wf_inu (k := (v_106 : Int32).toNatClampNeg) (x := x_261) hi_258 (by omega) (by omega)
                have hWF := wf_upd hWF h_265 x_266 (by rw [(wt12_9 hG Tu)]; exact ⟨_, rfl, hi_268⟩)
                have hr_209 := hr_209.ext x_266 (py_ne_arr hr_209 ha_257)
                have tq_269 := mi_row hr_209 2 rfl
                have tq_270 := mi_row hr_209 3 rfl
                have bv_206 := wf_free v_206
                have tq_271 := mi_row hr_209 4 rfl
                have bv_207 := wf_free v_207
                have tq_272 := mi_row hr_209 5 rfl
                have bv_208 := wf_free v_208
                have tq_273 := mi_row hr_209 14 rfl
                have h_246 := h_246.ext x_266 (wf_ne (wt12_12 hG Tu) (wt12_9 hG Tu) (by decide))
                have h_223 := h_223.ext x_266 (wf_ne (wt12_11 hG Tu) (wt12_9 hG Tu) (by decide))
                have h_164 := h_164.ext x_266 (wf_ne (wt12_10 hG Tu) (wt12_9 hG Tu) (by decide))
                have ha_236 := ha_236.ext x_266 (wf_ne (wt12_8 hG Tu) (wt12_9 hG Tu) (by decide))
                have hX9 := hX9.up ha_257 h_265 (by omega) (by omega)
                have hkn : clv f_263 G u = x_261.toInt := by unfold clv; rw [mi_kp (x_266 u (hWF u (by rw [Tu]; decide)).1 (wf_ne Tu (wt12_9 hG Tu) (by decide))).2 14, mi_row hr_209 14 rfl]; exact (arz_up ha_257 h_265 (by omega)).1
                exact py_vret G0 hr hlk hw ⟨(by first | omega | (intro q; omega)), (by first | omega | (intro q; omega)), (by first | omega | (intro q; omega)), ⟨hTR.tp, hX10, hX11, hX12, hX9, by omega⟩, (fun hw => by first | exact absurd hw (by omega) | exact ⟨co_a hTR hw (by omega) (by omega) (by omega) (by omega), by omega⟩), hWF, hKP, hFK⟩ dX12_clause_278
              · skip
                have tc_234 := ti_eq c_234
                replace en_201 := en_201 (by omega)
                refine lv_aload_n G0.1 G0.2.1 dX12_clause_207 rfl (lv_at hl 2 rfl) ?_
                refine py_calli hw (va_runV (As := []) (rest := []) G0 (c_X12_look l E G L_195 f_221 H_222.size u hG hWF Tu (show 0 ≤ mi f_221 u 3 ∧ mi f_221 u 3 ≤ mi f_221 u 2 by omega)) (cwV 0 G0.2.2.2.2 g_X12_clause_X12_look_146 rfl rfl rfl (by decide +kernel) ⟨(Nat.le_of_ble_eq_true rfl), (Nat.le_of_ble_eq_true rfl)⟩) (py_preV hw (C := RX12) (T := TX12) (N := 54) rfl hr_209) rfl rfl hl.1 rfl (lv_room (Nat.le_of_ble_eq_true rfl)) dX12_clause_208 ⟨(Nat.le_of_ble_eq_true rfl), (Nat.le_of_ble_eq_true rfl)⟩) (fun r_278 L_274 f_275 H_276 locs hp_277 hw => ?_)
                obtain ⟨en_279, en_280, en_281, hWF, kp_282, fk_283⟩ := hp_277
                have hX9 := hX9.same (kp_f kp_282 (wt12_9 hG Tu) (by decide) (by decide) (fun _ => by decide))
                have hX10 := hX10.same (kp_f kp_282 (wt12_10 hG Tu) (by decide) (by decide) (fun _ => by decide))
                have hX11 := hX11.same (kp_f kp_282 (wt12_11 hG Tu) (by decide) (by decide) (fun _ => by decide))
                have hX12 := hX12.same (kp_f kp_282 (wt12_12 hG Tu) (by decide) (by decide) (fun _ => by decide))
                have hV10 := (arz_kp (kp_f kp_282 (wt12_10 hG Tu) (by decide) (by decide) (fun _ => by decide)) _).trans hV10
                have hV11 := (arz_kp (kp_f kp_282 (wt12_11 hG Tu) (by decide) (by decide) (fun _ => by decide)) _).trans hV11
                have cq_284 := cdv_k hG Tu kp_282 fk_283 (by decide)
                have kq_285 := clv_k hG Tu kp_282 fk_283 (by decide)
                have hFK := hFK.trans fk_283 (by decide)
                have hKP := hKP.trans kp_282 (by decide) (by decide)
                obtain ⟨v_286, hr_287⟩ := fk_3 hWF Tu fk_283 hr_209
                have tq_288 := mi_row hr_287 2 rfl
                have tq_289 := mi_row hr_287 3 rfl
                have bv_286 := wf_free v_286
                have tq_290 := mi_row hr_287 4 rfl
                have bv_207 := wf_free v_207
                have tq_291 := mi_row hr_287 5 rfl
                have bv_208 := wf_free v_208
                have tq_292 := mi_row hr_287 14 rfl
                have h_223 := kp_at kp_282 hWF (wt12_11 hG Tu) (by decide) (by decide) (by decide) h_223
                have h_164 := kp_at kp_282 hWF (wt12_10 hG Tu) (by decide) (by decide) (by decide) h_164
                have hTR := hTR.kp hG Tu kp_282 fk_283 (by decide) (fun q => by omega)
                have br_278 := wf_free r_278
                refine lv_bipush (v := 63) G0.1 G0.2.1 dX12_clause_211 (by decide) ?_
                refine lv_icmp_eq (tgt := 221) G0.1 G0.2.1 dX12_clause_213 (by decide) (fun c_293 => ?_) (fun c_293 => ?_)
                · skip
                  have tc_293 := ti_eq c_293
                  replace en_280 := en_280 (by omega)
                  refine lv_aload_n G0.1 G0.2.1 dX12_clause_221 rfl (lv_at hl 2 rfl) ?_
                  refine lv_dup G0.1 G0.2.1 dX12_clause_222 rfl ?_
                  refine py_get (C := RX12) (T := TX12) (N := 54) (k := 3) (v := .int v_286) G0 hw in_X12_clause_X12 rfl hr_287 (by decide) (by decide +kernel) rfl dX12_clause_223 ?_
                  refine lv_iconst (v := 1) G0.1 G0.2.1 dX12_clause_226 (by decide) ?_
                  refine lv_iadd G0.1 G0.2.1 dX12_clause_227 ?_
                  refine lv_topi (fun x_294 ex_294 => ?_)
                  first | have tx_294 := ti_add ex_294 (by omega -splitDisjunctions) (by omega -splitDisjunctions) | skip
                  refine py_put (C := RX12) (T := TX12) (N := 54) (k := 3) (v := .int x_294) (fs' := [.int v_100, .ref (G.2 u 1), .int v_101, .int x_294, .int v_207, .int v_208, .ref (G.2 u 6), .ref (G.2 u 7), .ref (G.2 u 8), .ref (G.2 u 9), .ref (G.2 u 10), .ref (G.2 u 11), .ref (G.2 u 12), .int v_105, .int v_106, .ref (G.2 u 15), .ref (G.2 u 16), .ref (G.2 u 17), .ref (G.2 u 18), .int v_107, .int v_108, .ref (G.2 u 21), .ref (G.2 u 22), .ref (G.2 u 23), .int v_109, .int v_110, .ref (G.2 u 26), .ref (G.2 u 27), .ref (G.2 u 28), .int v_111, .long y_112, .int v_113, .int v_114, .int v_115, .int v_116, .ref (G.2 u 35), .ref (G.2 u 36), .ref (G.2 u 37), .ref (G.2 u 38), .ref (G.2 u 39), .ref (G.2 u 40), .ref (G.2 u 41), .ref (G.2 u 42), .int v_117, .ref (G.2 u 44), .ref (G.2 u 45), .ref (G.2 u 46), .ref (G.2 u 47), .long y_118, .ref (G.2 u 49), .ref (G.2 u 50), .int v_119, .long y_120, .int v_121]) (ty0 := tyX12) G0 hw tyX12_ok nmX12 in_X12_clause_X12 rfl hr_287 (by decide) (by decide +kernel) rfl rfl rfl rfl (Nat.le_of_ble_eq_true rfl) rfl dX12_clause_228 (fun f_295 H_296 locs h_297 x_298 hw => ?_)
                  have hX9 := hX9.same ((x_298 _ (hWF _ (by rw [wt12_9 hG Tu]; decide)).1 (wf_ne (wt12_9 hG Tu) Tu (by decide))).2)
                  have hX10 := hX10.same ((x_298 _ (hWF _ (by rw [wt12_10 hG Tu]; decide)).1 (wf_ne (wt12_10 hG Tu) Tu (by decide))).2)
                  have hX11 := hX11.same ((x_298 _ (hWF _ (by rw [wt12_11 hG Tu]; decide)).1 (wf_ne (wt12_11 hG Tu) Tu (by decide))).2)
                  have hX12 := hX12.same ((x_298 _ (hWF _ (by rw [wt12_12 hG Tu]; decide)).1 (wf_ne (wt12_12 hG Tu) Tu (by decide))).2)
                  have hV10 := (arz_kp ((x_298 _ (hWF _ (by rw [wt12_10 hG Tu]; decide)).1 (wf_ne (wt12_10 hG Tu) Tu (by decide))).2) _).trans hV10
                  have hV11 := (arz_kp ((x_298 _ (hWF _ (by rw [wt12_11 hG Tu]; decide)).1 (wf_ne (wt12_11 hG Tu) Tu (by decide))).2) _).trans hV11
                  have hFK := hFK.put hr_287 h_297 3 (by decide) rfl
                  have cq_299 := cdv_own (f1 := f_275) (f2 := f_295) hG hWF Tu x_298 (by have z1 := mi_row hr_287 14 rfl; have z2 := mi_row h_297 14 rfl; omega)
                  have hTR := hTR.own hG hWF Tu x_298 (by have z1 := mi_row hr_287 14 rfl; have z2 := mi_row h_297 14 rfl; omega) (by intro q; have z1 := mi_row hr_287 4 rfl; have z2 := mi_row h_297 4 rfl; omega)
                  have kq_300 := clv_own (f1 := f_275) (f2 := f_295) hG hWF Tu x_298 (by have z1 := mi_row hr_287 14 rfl; have z2 := mi_row h_297 14 rfl; omega)
                  have hKP := hKP.upd hWF x_298 Tu (Or.inl (by decide))
                  have hWF := wf_upd hWF h_297 x_298 (by rw [Tu]; exact ⟨v_100, v_101, x_294, v_207, v_208, v_105, v_106, v_107, v_108, v_109, v_110, v_111, y_112, v_113, v_114, v_115, v_116, v_117, y_118, v_119, y_120, v_121, rfl, ⟨by omega, by omega⟩, ⟨by omega, by omega⟩, ⟨by omega, by omega⟩, ⟨by omega, by omega⟩, ⟨by omega, by omega⟩, ⟨by omega, by omega⟩, ⟨by omega, by omega⟩, ⟨by omega, by omega⟩, ⟨by omega, by omega⟩, ⟨by omega, by omega⟩, ⟨by omega, by omega⟩, ⟨by omega, by omega⟩⟩)
                  have h_223 := h_223.ext x_298 (Ne.symm (py_ne_arr hr_287 h_223))
                  have h_164 := h_164.ext x_298 (Ne.symm (py_ne_arr hr_287 h_164))
                  have tq_301 := mi_row h_297 2 rfl
                  have tq_302 := mi_row h_297 3 rfl
                  have bx_294 := wf_free x_294
                  have tq_303 := mi_row h_297 4 rfl
                  have bv_207 := wf_free v_207
                  have tq_304 := mi_row h_297 5 rfl
                  have bv_208 := wf_free v_208
                  have tq_305 := mi_row h_297 14 rfl
                  refine lv_aload_n G0.1 G0.2.1 dX12_clause_231 rfl (lv_at hl 2 rfl) ?_
                  refine py_get (C := RX12) (T := TX12) (N := 54) (k := 11) (v := .ref (G.2 u 11)) G0 hw in_X12_clause_X12 rfl h_297 (by decide) (by decide +kernel) rfl dX12_clause_232 ?_
                  refine lv_iload_n G0.1 G0.2.1 dX12_clause_235 rfl (lv_at hl 1 rfl) ?_
                  refine lv_aload_n G0.1 G0.2.1 dX12_clause_236 rfl (lv_at hl 2 rfl) ?_
                  refine py_get (C := RX12) (T := TX12) (N := 54) (k := 8) (v := .ref (G.2 u 8)) G0 hw in_X12_clause_X12 rfl h_297 (by decide) (by decide +kernel) rfl dX12_clause_237 ?_
                  refine lv_aload_n G0.1 G0.2.1 dX12_clause_240 rfl (lv_at hl 2 rfl) ?_
                  refine py_get (C := RX12) (T := TX12) (N := 54) (k := 14) (v := .int v_106) G0 hw in_X12_clause_X12 rfl h_297 (by decide) (by decide +kernel) rfl dX12_clause_241 ?_
                  obtain ⟨g_306, ha_307, hi_308⟩ := wf_arr (n := 5) (lo := 0) (hi := 340) hWF (wt12_8 hG Tu) (by decide) (fun _ => rfl)
                  have rg_309 : vp_in v_106 5 := ti_in (by omega) (by omega)
                  refine py_iald G0 hw ha_307 rg_309 dX12_clause_244 ?_
                  refine lv_topi (fun x_310 ex_310 => ?_)
                  have bx_310 := ti_at hi_308 rg_309 ex_310
                  have zx_310 := arz_ld ha_307 ex_310
                  have hcxx_310 := cdv_ld h_297 rfl ha_307 ex_310
                  have rg_311 : vp_in x_47 450 := ti_in (by omega) (by omega)
                  refine py_iast G0 hw h_223 rg_311 dX12_clause_245 (fun f_312 H_313 locs h_314 x_315 hw => ?_)
                  have hkw : KP G [46] false f_295 f_312 := KP.refl.upd hWF x_315 (wt12_11 hG Tu) (Or.inl (by decide))
                  have hX9 := hX9.same ((x_315 _ (hWF _ (by rw [wt12_9 hG Tu]; decide)).1 (wf_ne (wt12_9 hG Tu) (wt12_11 hG Tu) (by decide))).2)
                  have hX10 := hX10.same ((x_315 _ (hWF _ (by rw [wt12_10 hG Tu]; decide)).1 (wf_ne (wt12_10 hG Tu) (wt12_11 hG Tu) (by decide))).2)
                  have hX12 := hX12.same ((x_315 _ (hWF _ (by rw [wt12_12 hG Tu]; decide)).1 (wf_ne (wt12_12 hG Tu) (wt12_11 hG Tu) (by decide))).2)
                  have hV10 := (arz_kp ((x_315 _ (hWF _ (by rw [wt12_10 hG Tu]; decide)).1 (wf_ne (wt12_10 hG Tu) (wt12_11 hG Tu) (by decide))).2) _).trans hV10
                  have hFK := hFK.same ((x_315 _ (hWF _ (by rw [Tu]; decide)).1 (wf_ne Tu (wt12_11 hG Tu) (by decide))).2)
                  have cq_316 := cdv_kp (f := f_295) (f1 := f_312) (m := u) (x_315 _ (hWF _ (by rw [wt12_8 hG Tu]; decide)).1 (wf_ne (wt12_8 hG Tu) (wt12_11 hG Tu) (by decide))).2 (mi_kp (x_315 u (hWF u (by rw [Tu]; decide)).1 (wf_ne Tu (wt12_11 hG Tu) (by decide))).2 14)
                  have kq_317 := clv_kp (f := f_295) (f1 := f_312) (m := u) (x_315 _ (hWF _ (by rw [wt12_9 hG Tu]; decide)).1 (wf_ne (wt12_9 hG Tu) (wt12_11 hG Tu) (by decide))).2 (mi_kp (x_315 u (hWF u (by rw [Tu]; decide)).1 (wf_ne Tu (wt12_11 hG Tu) (by decide))).2 14)
                  have hTR := hTR.same (f2 := f_312) (x_315 _ (hWF _ (by rw [wt12_6 hG Tu]; decide)).1 (wf_ne (wt12_6 hG Tu) (wt12_11 hG Tu) (by decide))).2 (x_315 _ (hWF _ (by rw [wt12_7 hG Tu]; decide)).1 (wf_ne (wt12_7 hG Tu) (wt12_11 hG Tu) (by decide))).2 (x_315 _ (hWF _ (by rw [wt12_8 hG Tu]; decide)).1 (wf_ne (wt12_8 hG Tu) (wt12_11 hG Tu) (by decide))).2 (mi_kp (x_315 u (hWF u (by rw [Tu]; decide)).1 (wf_ne Tu (wt12_11 hG Tu) (by decide))).2 14) (fun q => by have hz := mi_kp (x_315 u (hWF u (by rw [Tu]; decide)).1 (wf_ne Tu (wt12_11 hG Tu) (by decide))).2 4; omega)
                  have hKP := hKP.upd hWF x_315 (wt12_11 hG Tu) (Or.inl (by decide))
                  have hi_318 := wf_inu (k := (x_47 : Int32).toNatClampNeg) (x := x_310) hi_227 (wf_free x_310).1 (wf_free x_310).2
                  have hWF := wf_upd hWF h_314 x_315 (by rw [(wt12_11 hG Tu)]; exact ⟨_, rfl, hi_318⟩)
                  have h_297 := h_297.ext x_315 (py_ne_arr h_297 h_223)
                  have tq_319 := mi_row h_297 2 rfl
                  have tq_320 := mi_row h_297 3 rfl
                  have bx_294 := wf_free x_294
                  have tq_321 := mi_row h_297 4 rfl
                  have bv_207 := wf_free v_207
                  have tq_322 := mi_row h_297 5 rfl
                  have bv_208 := wf_free v_208
                  have tq_323 := mi_row h_297 14 rfl
                  have h_164 := h_164.ext x_315 (wf_ne (wt12_10 hG Tu) (wt12_11 hG Tu) (by decide))
                  have ha_307 := ha_307.ext x_315 (wf_ne (wt12_8 hG Tu) (wt12_11 hG Tu) (by decide))
                  have hX11 := hX11.up h_223 h_314 (by omega) (by omega)
                  have hV11 : arz f_312 (G.2 u 11) (90 * mi f u 14 + clv f G u) = cdv f_312 G u := by rw [show (90 * mi f u 14 + clv f G u) = x_47.toInt by omega, (arz_up h_223 h_314 (by omega)).1]; omega
                  have hTR1 := hTR
                  have hTRw : mi f_312 u 4 = -1 := by have hz := mi_kp (x_315 u (hWF u (by rw [Tu]; decide)).1 (wf_ne Tu (wt12_11 hG Tu) (by decide))).2 4; omega
                  have hcd2 := cdv_rng hG hWF Tu (by have hz := mi_kp (x_315 u (hWF u (by rw [Tu]; decide)).1 (wf_ne Tu (wt12_11 hG Tu) (by decide))).2 14; omega) (by have hz := mi_kp (x_315 u (hWF u (by rw [Tu]; decide)).1 (wf_ne Tu (wt12_11 hG Tu) (by decide))).2 14; omega)
                  have hTR : TR f_312 f_312 G u (80) 0 0 := TR.refl (by have hz := mi_kp (x_315 u (hWF u (by rw [Tu]; decide)).1 (wf_ne Tu (wt12_11 hG Tu) (by decide))).2 14; omega) (by omega)
                  refine lv_aload_n G0.1 G0.2.1 dX12_clause_246 rfl (lv_at hl 2 rfl) ?_
                  refine py_callv hw (va_runV (As := []) (rest := []) G0 (rq_sum l E G hG L_274 f_312 H_313.size u hWF Tu (show mi f_312 u 4 = -1 ∧ 0 ≤ mi f_312 u 5 ∧ mi f_312 u 5 ≤ 6 ∧ 0 ≤ mi f_312 u 3 ∧ mi f_312 u 3 ≤ mi f_312 u 2 ∧ cdv f_312 G u ≤ mi f_312 u 3 by omega)) (cwV 0 G0.2.2.2.2 g_X12_clause_X12_sum_167 rfl rfl rfl (by decide +kernel) ⟨(Nat.le_of_ble_eq_true rfl), (Nat.le_of_ble_eq_true rfl)⟩) (py_preV hw (C := RX12) (T := TX12) (N := 54) rfl h_297) rfl rfl hl.1 rfl (lv_room (Nat.le_of_ble_eq_true rfl)) dX12_clause_247 ⟨(Nat.le_of_ble_eq_true rfl), (Nat.le_of_ble_eq_true rfl)⟩) (fun L_324 f_325 H_326 locs hp_327 hw => ?_)
                  obtain ⟨en_329, en_330, en_331, hWF, kp_332, fk_333⟩ := hp_327
                  have hX9 := hX9.same (kp_f kp_332 (wt12_9 hG Tu) (by decide) (by decide) (fun _ => by decide))
                  have hX10 := hX10.same (kp_f kp_332 (wt12_10 hG Tu) (by decide) (by decide) (fun _ => by decide))
                  have hX11 := hX11.same (kp_f kp_332 (wt12_11 hG Tu) (by decide) (by decide) (fun _ => by decide))
                  have hX12 := hX12.same (kp_f kp_332 (wt12_12 hG Tu) (by decide) (by decide) (fun _ => by decide))
                  have hV10 := (arz_kp (kp_f kp_332 (wt12_10 hG Tu) (by decide) (by decide) (fun _ => by decide)) _).trans hV10
                  have hV11 := (arz_kp (kp_f kp_332 (wt12_11 hG Tu) (by decide) (by decide) (fun _ => by decide)) _).trans hV11
                  have kq_334 := clv_k hG Tu kp_332 fk_333 (by decide)
                  have hFK := hFK.trans fk_333 (by decide)
                  have hKP := hKP.trans kp_332 (by decide) (by decide)
                  obtain ⟨v_335, v_336, v_337, hr_338⟩ := fk_3_4_5 hWF Tu fk_333 h_297
                  have tq_339 := mi_row hr_338 2 rfl
                  have tq_340 := mi_row hr_338 3 rfl
                  have bv_335 := wf_free v_335
                  have tq_341 := mi_row hr_338 4 rfl
                  have bv_336 := wf_free v_336
                  have tq_342 := mi_row hr_338 5 rfl
                  have bv_337 := wf_free v_337
                  have tq_343 := mi_row hr_338 14 rfl
                  have h_314 := kp_at kp_332 hWF (wt12_11 hG Tu) (by decide) (by decide) (by decide) h_314
                  have h_164 := kp_at kp_332 hWF (wt12_10 hG Tu) (by decide) (by decide) (by decide) h_164
                  have hTR : TR f_312 f_325 G u (80) 0 1 := hTR.trans (en_331.lift (b := 0) (by omega) (by omega) (by omega) (by omega)) (fun q => by omega)
                  refine lv_aload_n G0.1 G0.2.1 dX12_clause_250 rfl (lv_at hl 2 rfl) ?_
                  refine py_get (C := RX12) (T := TX12) (N := 54) (k := 12) (v := .ref (G.2 u 12)) G0 hw in_X12_clause_X12 rfl hr_338 (by decide) (by decide +kernel) rfl dX12_clause_251 ?_
                  refine lv_iload_n G0.1 G0.2.1 dX12_clause_254 rfl (lv_at hl 1 rfl) ?_
                  refine lv_aload_n G0.1 G0.2.1 dX12_clause_255 rfl (lv_at hl 2 rfl) ?_
                  refine py_get (C := RX12) (T := TX12) (N := 54) (k := 8) (v := .ref (G.2 u 8)) G0 hw in_X12_clause_X12 rfl hr_338 (by decide) (by decide +kernel) rfl dX12_clause_256 ?_
                  refine lv_aload_n G0.1 G0.2.1 dX12_clause_259 rfl (lv_at hl 2 rfl) ?_
                  refine py_get (C := RX12) (T := TX12) (N := 54) (k := 14) (v := .int v_106) G0 hw in_X12_clause_X12 rfl hr_338 (by decide) (by decide +kernel) rfl dX12_clause_260 ?_
                  obtain ⟨g_344, ha_345, hi_346⟩ := wf_arr (n := 5) (lo := 0) (hi := 340) hWF (wt12_8 hG Tu) (by decide) (fun _ => rfl)
                  have rg_347 : vp_in v_106 5 := ti_in (by omega) (by omega)
                  refine py_iald G0 hw ha_345 rg_347 dX12_clause_263 ?_
                  refine lv_topi (fun x_348 ex_348 => ?_)
                  have bx_348 := ti_at hi_346 rg_347 ex_348
                  have zx_348 := arz_ld ha_345 ex_348
                  have hcxx_348 := cdv_ld hr_338 rfl ha_345 ex_348
                  obtain ⟨g_349, ha_350, hi_351⟩ := wf_arr (n := 450) (lo := (-2147483648)) (hi := 2147483647) hWF (wt12_12 hG Tu) (by decide) (fun _ => rfl)
                  have rg_352 : vp_in x_47 450 := ti_in (by omega) (by omega)
                  refine py_iast G0 hw ha_350 rg_352 dX12_clause_264 (fun f_353 H_354 locs h_355 x_356 hw => ?_)
                  have hkw : KP G [47] false f_325 f_353 := KP.refl.upd hWF x_356 (wt12_12 hG Tu) (Or.inl (by decide))
                  have hX9 := hX9.same ((x_356 _ (hWF _ (by rw [wt12_9 hG Tu]; decide)).1 (wf_ne (wt12_9 hG Tu) (wt12_12 hG Tu) (by decide))).2)
                  have hX10 := hX10.same ((x_356 _ (hWF _ (by rw [wt12_10 hG Tu]; decide)).1 (wf_ne (wt12_10 hG Tu) (wt12_12 hG Tu) (by decide))).2)
                  have hX11 := hX11.same ((x_356 _ (hWF _ (by rw [wt12_11 hG Tu]; decide)).1 (wf_ne (wt12_11 hG Tu) (wt12_12 hG Tu) (by decide))).2)
                  have hV10 := (arz_kp ((x_356 _ (hWF _ (by rw [wt12_10 hG Tu]; decide)).1 (wf_ne (wt12_10 hG Tu) (wt12_12 hG Tu) (by decide))).2) _).trans hV10
                  have hV11 := (arz_kp ((x_356 _ (hWF _ (by rw [wt12_11 hG Tu]; decide)).1 (wf_ne (wt12_11 hG Tu) (wt12_12 hG Tu) (by decide))).2) _).trans hV11
                  have hFK := hFK.same ((x_356 _ (hWF _ (by rw [Tu]; decide)).1 (wf_ne Tu (wt12_12 hG Tu) (by decide))).2)
                  have cq_357 := cdv_kp (f := f_325) (f1 := f_353) (m := u) (x_356 _ (hWF _ (by rw [wt12_8 hG Tu]; decide)).1 (wf_ne (wt12_8 hG Tu) (wt12_12 hG Tu) (by decide))).2 (mi_kp (x_356 u (hWF u (by rw [Tu]; decide)).1 (wf_ne Tu (wt12_12 hG Tu) (by decide))).2 14)
                  have kq_358 := clv_kp (f := f_325) (f1 := f_353) (m := u) (x_356 _ (hWF _ (by rw [wt12_9 hG Tu]; decide)).1 (wf_ne (wt12_9 hG Tu) (wt12_12 hG Tu) (by decide))).2 (mi_kp (x_356 u (hWF u (by rw [Tu]; decide)).1 (wf_ne Tu (wt12_12 hG Tu) (by decide))).2 14)
                  have hTR := hTR.same (f2 := f_353) (x_356 _ (hWF _ (by rw [wt12_6 hG Tu]; decide)).1 (wf_ne (wt12_6 hG Tu) (wt12_12 hG Tu) (by decide))).2 (x_356 _ (hWF _ (by rw [wt12_7 hG Tu]; decide)).1 (wf_ne (wt12_7 hG Tu) (wt12_12 hG Tu) (by decide))).2 (x_356 _ (hWF _ (by rw [wt12_8 hG Tu]; decide)).1 (wf_ne (wt12_8 hG Tu) (wt12_12 hG Tu) (by decide))).2 (mi_kp (x_356 u (hWF u (by rw [Tu]; decide)).1 (wf_ne Tu (wt12_12 hG Tu) (by decide))).2 14) (fun q => by have hz := mi_kp (x_356 u (hWF u (by rw [Tu]; decide)).1 (wf_ne Tu (wt12_12 hG Tu) (by decide))).2 4; omega)
                  have hKP := hKP.upd hWF x_356 (wt12_12 hG Tu) (Or.inl (by decide))
                  have hi_359 := wf_inu (k := (x_47 : Int32).toNatClampNeg) (x := x_348) hi_351 (wf_free x_348).1 (wf_free x_348).2
                  have hWF := wf_upd hWF h_355 x_356 (by rw [(wt12_12 hG Tu)]; exact ⟨_, rfl, hi_359⟩)
                  have hr_338 := hr_338.ext x_356 (py_ne_arr hr_338 ha_350)
                  have tq_360 := mi_row hr_338 2 rfl
                  have tq_361 := mi_row hr_338 3 rfl
                  have bv_335 := wf_free v_335
                  have tq_362 := mi_row hr_338 4 rfl
                  have bv_336 := wf_free v_336
                  have tq_363 := mi_row hr_338 5 rfl
                  have bv_337 := wf_free v_337
                  have tq_364 := mi_row hr_338 14 rfl
                  have h_314 := h_314.ext x_356 (wf_ne (wt12_11 hG Tu) (wt12_12 hG Tu) (by decide))
                  have h_164 := h_164.ext x_356 (wf_ne (wt12_10 hG Tu) (wt12_12 hG Tu) (by decide))
                  have ha_345 := ha_345.ext x_356 (wf_ne (wt12_8 hG Tu) (wt12_12 hG Tu) (by decide))
                  have hX12 := hX12.up ha_350 h_355 (by omega) (by omega)
                  have hV12 : arz f_353 (G.2 u 12) (90 * mi f u 14 + clv f G u) = cdv f_353 G u := by rw [show (90 * mi f u 14 + clv f G u) = x_47.toInt by omega, (arz_up ha_350 h_355 (by omega)).1]; omega
                  refine lv_aload_n G0.1 G0.2.1 dX12_clause_265 rfl (lv_at hl 2 rfl) ?_
                  refine py_get (C := RX12) (T := TX12) (N := 54) (k := 9) (v := .ref (G.2 u 9)) G0 hw in_X12_clause_X12 rfl hr_338 (by decide) (by decide +kernel) rfl dX12_clause_266 ?_
                  refine lv_aload_n G0.1 G0.2.1 dX12_clause_269 rfl (lv_at hl 2 rfl) ?_
                  refine py_get (C := RX12) (T := TX12) (N := 54) (k := 14) (v := .int v_106) G0 hw in_X12_clause_X12 rfl hr_338 (by decide) (by decide +kernel) rfl dX12_clause_270 ?_
                  refine lv_dup2_11 G0.1 G0.2.1 dX12_clause_273 rfl rfl ?_
                  obtain ⟨g_365, ha_366, hi_367⟩ := wf_arr (n := 5) (lo := 0) (hi := 90) hWF (wt12_9 hG Tu) (by decide) (fun _ => rfl)
                  have rg_368 : vp_in v_106 5 := ti_in (by omega) (by omega)
                  refine py_iald G0 hw ha_366 rg_368 dX12_clause_274 ?_
                  refine lv_topi (fun x_369 ex_369 => ?_)
                  have bx_369 := ti_at hi_367 rg_368 ex_369
                  have zx_369 := arz_ld ha_366 ex_369
                  have hkxx_369 := clv_ld hr_338 rfl ha_366 ex_369
                  refine lv_iconst (v := 1) G0.1 G0.2.1 dX12_clause_275 (by decide) ?_
                  refine lv_iadd G0.1 G0.2.1 dX12_clause_276 ?_
                  refine lv_topi (fun x_370 ex_370 => ?_)
                  first | have tx_370 := ti_add ex_370 (by omega -splitDisjunctions) (by omega -splitDisjunctions) | skip
                  have rg_371 : vp_in v_106 5 := ti_in (by omega) (by omega)
                  refine py_iast G0 hw ha_366 rg_371 dX12_clause_277 (fun f_372 H_373 locs h_374 x_375 hw => ?_)
                  have hkw : KP G [44] false f_353 f_372 := KP.refl.upd hWF x_375 (wt12_9 hG Tu) (Or.inl (by decide))
                  have hX10 := hX10.same ((x_375 _ (hWF _ (by rw [wt12_10 hG Tu]; decide)).1 (wf_ne (wt12_10 hG Tu) (wt12_9 hG Tu) (by decide))).2)
                  have hX11 := hX11.same ((x_375 _ (hWF _ (by rw [wt12_11 hG Tu]; decide)).1 (wf_ne (wt12_11 hG Tu) (wt12_9 hG Tu) (by decide))).2)
                  have hX12 := hX12.same ((x_375 _ (hWF _ (by rw [wt12_12 hG Tu]; decide)).1 (wf_ne (wt12_12 hG Tu) (wt12_9 hG Tu) (by decide))).2)
                  have hV10 := (arz_kp ((x_375 _ (hWF _ (by rw [wt12_10 hG Tu]; decide)).1 (wf_ne (wt12_10 hG Tu) (wt12_9 hG Tu) (by decide))).2) _).trans hV10
                  have hV11 := (arz_kp ((x_375 _ (hWF _ (by rw [wt12_11 hG Tu]; decide)).1 (wf_ne (wt12_11 hG Tu) (wt12_9 hG Tu) (by decide))).2) _).trans hV11
                  have hV12 := (arz_kp ((x_375 _ (hWF _ (by rw [wt12_12 hG Tu]; decide)).1 (wf_ne (wt12_12 hG Tu) (wt12_9 hG Tu) (by decide))).2) _).trans hV12
                  have hFK := hFK.same ((x_375 _ (hWF _ (by rw [Tu]; decide)).1 (wf_ne Tu (wt12_9 hG Tu) (by decide))).2)
                  have cq_376 := cdv_kp (f := f_353) (f1 := f_372) (m := u) (x_375 _ (hWF _ (by rw [wt12_8 hG Tu]; decide)).1 (wf_ne (wt12_8 hG Tu) (wt12_9 hG Tu) (by decide))).2 (mi_kp (x_375 u (hWF u (by rw [Tu]; decide)).1 (wf_ne Tu (wt12_9 hG Tu) (by decide))).2 14)
                  have hTR := hTR.same (f2 := f_372) (x_375 _ (hWF _ (by rw [wt12_6 hG Tu]; decide)).1 (wf_ne (wt12_6 hG Tu) (wt12_9 hG Tu) (by decide))).2 (x_375 _ (hWF _ (by rw [wt12_7 hG Tu]; decide)).1 (wf_ne (wt12_7 hG Tu) (wt12_9 hG Tu) (by decide))).2 (x_375 _ (hWF _ (by rw [wt12_8 hG Tu]; decide)).1 (wf_ne (wt12_8 hG Tu) (wt12_9 hG Tu) (by decide))).2 (mi_kp (x_375 u (hWF u (by rw [Tu]; decide)).1 (wf_ne Tu (wt12_9 hG Tu) (by decide))).2 14) (fun q => by have hz := mi_kp (x_375 u (hWF u (by rw [Tu]; decide)).1 (wf_ne Tu (wt12_9 hG Tu) (by decide))).2 4; omega)
                  have hKP := hKP.upd hWF x_375 (wt12_9 hG Tu) (Or.inl (by decide))
                  have hi_377 := wf_inu (k := (v_106 : Int32).toNatClampNeg) (x := x_370) hi_367 (by omega) (by omega)
                  have hWF := wf_upd hWF h_374 x_375 (by rw [(wt12_9 hG Tu)]; exact ⟨_, rfl, hi_377⟩)
                  have hr_338 := hr_338.ext x_375 (py_ne_arr hr_338 ha_366)
                  have tq_378 := mi_row hr_338 2 rfl
                  have tq_379 := mi_row hr_338 3 rfl
                  have bv_335 := wf_free v_335
                  have tq_380 := mi_row hr_338 4 rfl
                  have bv_336 := wf_free v_336
                  have tq_381 := mi_row hr_338 5 rfl
                  have bv_337 := wf_free v_337
                  have tq_382 := mi_row hr_338 14 rfl
                  have h_355 := h_355.ext x_375 (wf_ne (wt12_12 hG Tu) (wt12_9 hG Tu) (by decide))
                  have h_314 := h_314.ext x_375 (wf_ne (wt12_11 hG Tu) (wt12_9 hG Tu) (by decide))
                  have h_164 := h_164.ext x_375 (wf_ne (wt12_10 hG Tu) (wt12_9 hG Tu) (by decide))
                  have ha_345 := ha_345.ext x_375 (wf_ne (wt12_8 hG Tu) (wt12_9 hG Tu) (by decide))
                  have hX9 := hX9.up ha_366 h_374 (by omega) (by omega)
                  have hkn : clv f_372 G u = x_370.toInt := by unfold clv; rw [mi_kp (x_375 u (hWF u (by rw [Tu]; decide)).1 (wf_ne Tu (wt12_9 hG Tu) (by decide))).2 14, mi_row hr_338 14 rfl]; exact (arz_up ha_366 h_374 (by omega)).1
                  exact py_vret G0 hr hlk hw ⟨(by first | omega | (intro q; omega)), (by first | omega | (intro q; omega)), (by first | omega | (intro q; omega)), ⟨(hTR1.tp.trans hTR.tp), hX10, hX11, hX12, hX9, by omega⟩, (fun hw => by first | exact absurd hw (by omega) | exact ⟨co_b hTR1 hTR hTRw hw (by omega) (by omega) (by omega) (by omega), by omega⟩), hWF, hKP, hFK⟩ dX12_clause_278
                · skip
                  have tc_293 := ti_ne c_293
                  refine lv_aload_n G0.1 G0.2.1 dX12_clause_216 rfl (lv_at hl 2 rfl) ?_
                  refine py_callv hw (va_runV (As := []) (rest := []) G0 (c_X12_bad l E G L_274 f_275 H_276.size u hG hWF Tu (show 0 ≤ mi f_275 u 3 by omega)) (cwV 0 G0.2.2.2.2 g_X12_clause_X12_bad_143 rfl rfl rfl (by decide +kernel) ⟨(Nat.le_of_ble_eq_true rfl), (Nat.le_of_ble_eq_true rfl)⟩) (py_preV hw (C := RX12) (T := TX12) (N := 54) rfl hr_287) rfl rfl hl.1 rfl (lv_room (Nat.le_of_ble_eq_true rfl)) dX12_clause_217 ⟨(Nat.le_of_ble_eq_true rfl), (Nat.le_of_ble_eq_true rfl)⟩) (fun L_383 f_384 H_385 locs hp_386 hw => ?_)
                  obtain ⟨en_388, en_389, hWF, kp_390, fk_391⟩ := hp_386
                  have hX9 := hX9.same (kp_f kp_390 (wt12_9 hG Tu) (by decide) (by decide) (fun _ => by decide))
                  have hX10 := hX10.same (kp_f kp_390 (wt12_10 hG Tu) (by decide) (by decide) (fun _ => by decide))
                  have hX11 := hX11.same (kp_f kp_390 (wt12_11 hG Tu) (by decide) (by decide) (fun _ => by decide))
                  have hX12 := hX12.same (kp_f kp_390 (wt12_12 hG Tu) (by decide) (by decide) (fun _ => by decide))
                  have hV10 := (arz_kp (kp_f kp_390 (wt12_10 hG Tu) (by decide) (by decide) (fun _ => by decide)) _).trans hV10
                  have hV11 := (arz_kp (kp_f kp_390 (wt12_11 hG Tu) (by decide) (by decide) (fun _ => by decide)) _).trans hV11
                  have cq_392 := cdv_k hG Tu kp_390 fk_391 (by decide)
                  have kq_393 := clv_k hG Tu kp_390 fk_391 (by decide)
                  have hFK := hFK.trans fk_391 (by decide)
                  have hKP := hKP.trans kp_390 (by decide) (by decide)
                  obtain ⟨v_394, hr_395⟩ := fk_4 hWF Tu fk_391 hr_287
                  have tq_396 := mi_row hr_395 2 rfl
                  have tq_397 := mi_row hr_395 3 rfl
                  have bv_286 := wf_free v_286
                  have tq_398 := mi_row hr_395 4 rfl
                  have bv_394 := wf_free v_394
                  have tq_399 := mi_row hr_395 5 rfl
                  have bv_208 := wf_free v_208
                  have tq_400 := mi_row hr_395 14 rfl
                  have h_223 := kp_at kp_390 hWF (wt12_11 hG Tu) (by decide) (by decide) (by decide) h_223
                  have h_164 := kp_at kp_390 hWF (wt12_10 hG Tu) (by decide) (by decide) (by decide) h_164
                  have hTR := hTR.kp hG Tu kp_390 fk_391 (by decide) (fun q => by omega)
                  exact py_vret G0 hr hlk hw ⟨(by first | omega | (intro q; omega)), (by first | omega | (intro q; omega)), (by first | omega | (intro q; omega)), ⟨hTR.tp, hX10, hX11, hX12, hX9, by omega⟩, (fun hw => by first | exact absurd hw (by omega) | exact ⟨co_a hTR hw (by omega) (by omega) (by omega) (by omega), by omega⟩), hWF, hKP, hFK⟩ dX12_clause_220
        · skip
          have tc_193 := ti_ne c_193
          refine lv_aload_n G0.1 G0.2.1 dX12_clause_113 rfl (lv_at hl 1 rfl) ?_
          refine py_calli hw (va_runV (As := []) (rest := []) G0 (c_X12_look l E G L_174 f_175 H_176.size u hG hWF Tu (show 0 ≤ mi f_175 u 3 ∧ mi f_175 u 3 ≤ mi f_175 u 2 by omega)) (cwV 0 G0.2.2.2.2 g_X12_clause_X12_look_146 rfl rfl rfl (by decide +kernel) ⟨(Nat.le_of_ble_eq_true rfl), (Nat.le_of_ble_eq_true rfl)⟩) (py_preV hw (C := RX12) (T := TX12) (N := 54) rfl hr_187) rfl rfl hl.1 rfl (lv_room (Nat.le_of_ble_eq_true rfl)) dX12_clause_114 ⟨(Nat.le_of_ble_eq_true rfl), (Nat.le_of_ble_eq_true rfl)⟩) (fun r_405 L_401 f_402 H_403 locs hp_404 hw => ?_)
          obtain ⟨en_406, en_407, en_408, hWF, kp_409, fk_410⟩ := hp_404
          have hX9 := hX9.same (kp_f kp_409 (wt12_9 hG Tu) (by decide) (by decide) (fun _ => by decide))
          have hX10 := hX10.same (kp_f kp_409 (wt12_10 hG Tu) (by decide) (by decide) (fun _ => by decide))
          have hX11 := hX11.same (kp_f kp_409 (wt12_11 hG Tu) (by decide) (by decide) (fun _ => by decide))
          have hX12 := hX12.same (kp_f kp_409 (wt12_12 hG Tu) (by decide) (by decide) (fun _ => by decide))
          have hV10 := (arz_kp (kp_f kp_409 (wt12_10 hG Tu) (by decide) (by decide) (fun _ => by decide)) _).trans hV10
          have cq_411 := cdv_k hG Tu kp_409 fk_410 (by decide)
          have kq_412 := clv_k hG Tu kp_409 fk_410 (by decide)
          have hFK := hFK.trans fk_410 (by decide)
          have hKP := hKP.trans kp_409 (by decide) (by decide)
          obtain ⟨v_413, hr_414⟩ := fk_3 hWF Tu fk_410 hr_187
          have tq_415 := mi_row hr_414 2 rfl
          have tq_416 := mi_row hr_414 3 rfl
          have bv_413 := wf_free v_413
          have tq_417 := mi_row hr_414 4 rfl
          have bv_103 := wf_free v_103
          have tq_418 := mi_row hr_414 5 rfl
          have bv_104 := wf_free v_104
          have tq_419 := mi_row hr_414 14 rfl
          have h_164 := kp_at kp_409 hWF (wt12_10 hG Tu) (by decide) (by decide) (by decide) h_164
          have ha_154 := kp_at kp_409 hWF (wt12_8 hG Tu) (by decide) (by decide) (by decide) ha_154
          have hTR := hTR.kp hG Tu kp_409 fk_410 (by decide) (fun q => by omega)
          have br_405 := wf_free r_405
          refine lv_bipush (v := 40) G0.1 G0.2.1 dX12_clause_117 (by decide) ?_
          refine lv_icmp_ne (tgt := 126) G0.1 G0.2.1 dX12_clause_119 (by decide) (fun c_420 => ?_) (fun c_420 => ?_)
          · skip
            have tc_420 := ti_ne c_420
            refine lv_iconst (v := 0) G0.1 G0.2.1 dX12_clause_126 (by decide) ?_
            refine lv_istore_n (lv' := [(2, .int 0), (1, .int x_47), (0, .ref u)]) G0.1 G0.2.1 dX12_clause_127 rfl hl (by decide) rfl (fun ls hl => ?_)
            refine lv_iload_n G0.1 G0.2.1 dX12_clause_128 rfl (lv_at hl 0 rfl) ?_
            refine lv_if_eq (tgt := 139) G0.1 G0.2.1 dX12_clause_129 (by decide) (fun c_421 => ?_) (fun c_421 => ?_)
            · skip
              have tc_421 := ti_eq c_421
              refine lv_aload_n G0.1 G0.2.1 dX12_clause_139 rfl (lv_at hl 2 rfl) ?_
              refine py_callv hw (va_runV (As := []) (rest := []) G0 (rq_sum l E G hG L_401 f_402 H_403.size u hWF Tu (show mi f_402 u 4 = -1 ∧ 0 ≤ mi f_402 u 5 ∧ mi f_402 u 5 ≤ 6 ∧ 0 ≤ mi f_402 u 3 ∧ mi f_402 u 3 ≤ mi f_402 u 2 ∧ cdv f_402 G u ≤ mi f_402 u 3 by omega)) (cwV 0 G0.2.2.2.2 g_X12_clause_X12_sum_167 rfl rfl rfl (by decide +kernel) ⟨(Nat.le_of_ble_eq_true rfl), (Nat.le_of_ble_eq_true rfl)⟩) (py_preV hw (C := RX12) (T := TX12) (N := 54) rfl hr_414) rfl rfl hl.1 rfl (lv_room (Nat.le_of_ble_eq_true rfl)) dX12_clause_140 ⟨(Nat.le_of_ble_eq_true rfl), (Nat.le_of_ble_eq_true rfl)⟩) (fun L_422 f_423 H_424 locs hp_425 hw => ?_)
              obtain ⟨en_427, en_428, en_429, hWF, kp_430, fk_431⟩ := hp_425
              have hX9 := hX9.same (kp_f kp_430 (wt12_9 hG Tu) (by decide) (by decide) (fun _ => by decide))
              have hX10 := hX10.same (kp_f kp_430 (wt12_10 hG Tu) (by decide) (by decide) (fun _ => by decide))
              have hX11 := hX11.same (kp_f kp_430 (wt12_11 hG Tu) (by decide) (by decide) (fun _ => by decide))
              have hX12 := hX12.same (kp_f kp_430 (wt12_12 hG Tu) (by decide) (by decide) (fun _ => by decide))
              have hV10 := (arz_kp (kp_f kp_430 (wt12_10 hG Tu) (by decide) (by decide) (fun _ => by decide)) _).trans hV10
              have kq_432 := clv_k hG Tu kp_430 fk_431 (by decide)
              have hFK := hFK.trans fk_431 (by decide)
              have hKP := hKP.trans kp_430 (by decide) (by decide)
              obtain ⟨v_433, v_434, v_435, hr_436⟩ := fk_3_4_5 hWF Tu fk_431 hr_414
              have tq_437 := mi_row hr_436 2 rfl
              have tq_438 := mi_row hr_436 3 rfl
              have bv_433 := wf_free v_433
              have tq_439 := mi_row hr_436 4 rfl
              have bv_434 := wf_free v_434
              have tq_440 := mi_row hr_436 5 rfl
              have bv_435 := wf_free v_435
              have tq_441 := mi_row hr_436 14 rfl
              have h_164 := kp_at kp_430 hWF (wt12_10 hG Tu) (by decide) (by decide) (by decide) h_164
              have hTR : TR f f_423 G u (80) 0 1 := hTR.trans (en_429.lift (b := 0) (by omega) (by omega) (by omega) (by omega)) (fun q => by omega)
              refine lv_aload_n G0.1 G0.2.1 dX12_clause_143 rfl (lv_at hl 2 rfl) ?_
              refine py_get (C := RX12) (T := TX12) (N := 54) (k := 4) (v := .int v_434) G0 hw in_X12_clause_X12 rfl hr_436 (by decide) (by decide +kernel) rfl dX12_clause_144 ?_
              refine lv_iconst (v := (-1)) G0.1 G0.2.1 dX12_clause_147 (by decide) ?_
              refine lv_icmp_ne (tgt := 165) G0.1 G0.2.1 dX12_clause_148 (by decide) (fun c_442 => ?_) (fun c_442 => ?_)
              · skip
                have tc_442 := ti_ne c_442
                clear en_428
                refine lv_iconst (v := 0) G0.1 G0.2.1 dX12_clause_165 (by decide) ?_
                refine lv_istore_n (lv' := [(2, .int 0), (1, .int x_47), (0, .ref u)]) G0.1 G0.2.1 dX12_clause_166 rfl hl (by decide) rfl (fun ls hl => ?_)
                refine lv_iload_n G0.1 G0.2.1 dX12_clause_167 rfl (lv_at hl 0 rfl) ?_
                refine lv_if_eq (tgt := 183) G0.1 G0.2.1 dX12_clause_168 (by decide) (fun c_443 => ?_) (fun c_443 => ?_)
                · skip
                  have tc_443 := ti_eq c_443
                  refine lv_aload_n G0.1 G0.2.1 dX12_clause_183 rfl (lv_at hl 2 rfl) ?_
                  refine py_get (C := RX12) (T := TX12) (N := 54) (k := 11) (v := .ref (G.2 u 11)) G0 hw in_X12_clause_X12 rfl hr_436 (by decide) (by decide +kernel) rfl dX12_clause_184 ?_
                  refine lv_iload_n G0.1 G0.2.1 dX12_clause_187 rfl (lv_at hl 1 rfl) ?_
                  refine lv_aload_n G0.1 G0.2.1 dX12_clause_188 rfl (lv_at hl 2 rfl) ?_
                  refine py_get (C := RX12) (T := TX12) (N := 54) (k := 10) (v := .ref (G.2 u 10)) G0 hw in_X12_clause_X12 rfl hr_436 (by decide) (by decide +kernel) rfl dX12_clause_189 ?_
                  refine lv_iload_n G0.1 G0.2.1 dX12_clause_192 rfl (lv_at hl 1 rfl) ?_
                  have rg_444 : vp_in x_47 450 := ti_in (by omega) (by omega)
                  refine py_iald G0 hw h_164 rg_444 dX12_clause_193 ?_
                  refine lv_topi (fun x_445 ex_445 => ?_)
                  have bx_445 := wf_free x_445
                  have zx_445 := arz_ld h_164 ex_445
                  obtain ⟨g_446, ha_447, hi_448⟩ := wf_arr (n := 450) (lo := (-2147483648)) (hi := 2147483647) hWF (wt12_11 hG Tu) (by decide) (fun _ => rfl)
                  have rg_449 : vp_in x_47 450 := ti_in (by omega) (by omega)
                  refine py_iast G0 hw ha_447 rg_449 dX12_clause_194 (fun f_450 H_451 locs h_452 x_453 hw => ?_)
                  have hkw : KP G [46] false f_423 f_450 := KP.refl.upd hWF x_453 (wt12_11 hG Tu) (Or.inl (by decide))
                  have hX9 := hX9.same ((x_453 _ (hWF _ (by rw [wt12_9 hG Tu]; decide)).1 (wf_ne (wt12_9 hG Tu) (wt12_11 hG Tu) (by decide))).2)
                  have hX10 := hX10.same ((x_453 _ (hWF _ (by rw [wt12_10 hG Tu]; decide)).1 (wf_ne (wt12_10 hG Tu) (wt12_11 hG Tu) (by decide))).2)
                  have hX12 := hX12.same ((x_453 _ (hWF _ (by rw [wt12_12 hG Tu]; decide)).1 (wf_ne (wt12_12 hG Tu) (wt12_11 hG Tu) (by decide))).2)
                  have hV10 := (arz_kp ((x_453 _ (hWF _ (by rw [wt12_10 hG Tu]; decide)).1 (wf_ne (wt12_10 hG Tu) (wt12_11 hG Tu) (by decide))).2) _).trans hV10
                  have hFK := hFK.same ((x_453 _ (hWF _ (by rw [Tu]; decide)).1 (wf_ne Tu (wt12_11 hG Tu) (by decide))).2)
                  have cq_454 := cdv_kp (f := f_423) (f1 := f_450) (m := u) (x_453 _ (hWF _ (by rw [wt12_8 hG Tu]; decide)).1 (wf_ne (wt12_8 hG Tu) (wt12_11 hG Tu) (by decide))).2 (mi_kp (x_453 u (hWF u (by rw [Tu]; decide)).1 (wf_ne Tu (wt12_11 hG Tu) (by decide))).2 14)
                  have kq_455 := clv_kp (f := f_423) (f1 := f_450) (m := u) (x_453 _ (hWF _ (by rw [wt12_9 hG Tu]; decide)).1 (wf_ne (wt12_9 hG Tu) (wt12_11 hG Tu) (by decide))).2 (mi_kp (x_453 u (hWF u (by rw [Tu]; decide)).1 (wf_ne Tu (wt12_11 hG Tu) (by decide))).2 14)
                  have hTR := hTR.same (f2 := f_450) (x_453 _ (hWF _ (by rw [wt12_6 hG Tu]; decide)).1 (wf_ne (wt12_6 hG Tu) (wt12_11 hG Tu) (by decide))).2 (x_453 _ (hWF _ (by rw [wt12_7 hG Tu]; decide)).1 (wf_ne (wt12_7 hG Tu) (wt12_11 hG Tu) (by decide))).2 (x_453 _ (hWF _ (by rw [wt12_8 hG Tu]; decide)).1 (wf_ne (wt12_8 hG Tu) (wt12_11 hG Tu) (by decide))).2 (mi_kp (x_453 u (hWF u (by rw [Tu]; decide)).1 (wf_ne Tu (wt12_11 hG Tu) (by decide))).2 14) (fun q => by have hz := mi_kp (x_453 u (hWF u (by rw [Tu]; decide)).1 (wf_ne Tu (wt12_11 hG Tu) (by decide))).2 4; omega)
                  have hKP := hKP.upd hWF x_453 (wt12_11 hG Tu) (Or.inl (by decide))
                  have hi_456 := wf_inu (k := (x_47 : Int32).toNatClampNeg) (x := x_445) hi_448 (wf_free x_445).1 (wf_free x_445).2
                  have hWF := wf_upd hWF h_452 x_453 (by rw [(wt12_11 hG Tu)]; exact ⟨_, rfl, hi_456⟩)
                  have hr_436 := hr_436.ext x_453 (py_ne_arr hr_436 ha_447)
                  have tq_457 := mi_row hr_436 2 rfl
                  have tq_458 := mi_row hr_436 3 rfl
                  have bv_433 := wf_free v_433
                  have tq_459 := mi_row hr_436 4 rfl
                  have bv_434 := wf_free v_434
                  have tq_460 := mi_row hr_436 5 rfl
                  have bv_435 := wf_free v_435
                  have tq_461 := mi_row hr_436 14 rfl
                  have h_164 := h_164.ext x_453 (wf_ne (wt12_10 hG Tu) (wt12_11 hG Tu) (by decide))
                  have hX11 := hX11.up ha_447 h_452 (by omega) (by omega)
                  have hV11 : arz f_450 (G.2 u 11) (90 * mi f u 14 + clv f G u) = cdv f G u := by rw [show (90 * mi f u 14 + clv f G u) = x_47.toInt by omega, (arz_up ha_447 h_452 (by omega)).1]; omega
                  refine lv_iload_n G0.1 G0.2.1 dX12_clause_195 rfl (lv_at hl 0 rfl) ?_
                  refine lv_if_eq (tgt := 250) G0.1 G0.2.1 dX12_clause_196 (by decide) (fun c_462 => ?_) (fun c_462 => ?_)
                  · skip
                    have tc_462 := ti_eq c_462
                    refine lv_aload_n G0.1 G0.2.1 dX12_clause_250 rfl (lv_at hl 2 rfl) ?_
                    refine py_get (C := RX12) (T := TX12) (N := 54) (k := 12) (v := .ref (G.2 u 12)) G0 hw in_X12_clause_X12 rfl hr_436 (by decide) (by decide +kernel) rfl dX12_clause_251 ?_
                    refine lv_iload_n G0.1 G0.2.1 dX12_clause_254 rfl (lv_at hl 1 rfl) ?_
                    refine lv_aload_n G0.1 G0.2.1 dX12_clause_255 rfl (lv_at hl 2 rfl) ?_
                    refine py_get (C := RX12) (T := TX12) (N := 54) (k := 8) (v := .ref (G.2 u 8)) G0 hw in_X12_clause_X12 rfl hr_436 (by decide) (by decide +kernel) rfl dX12_clause_256 ?_
                    refine lv_aload_n G0.1 G0.2.1 dX12_clause_259 rfl (lv_at hl 2 rfl) ?_
                    refine py_get (C := RX12) (T := TX12) (N := 54) (k := 14) (v := .int v_106) G0 hw in_X12_clause_X12 rfl hr_436 (by decide) (by decide +kernel) rfl dX12_clause_260 ?_
                    obtain ⟨g_463, ha_464, hi_465⟩ := wf_arr (n := 5) (lo := 0) (hi := 340) hWF (wt12_8 hG Tu) (by decide) (fun _ => rfl)
                    have rg_466 : vp_in v_106 5 := ti_in (by omega) (by omega)
                    refine py_iald G0 hw ha_464 rg_466 dX12_clause_263 ?_
                    refine lv_topi (fun x_467 ex_467 => ?_)
                    have bx_467 := ti_at hi_465 rg_466 ex_467
                    have zx_467 := arz_ld ha_464 ex_467
                    have hcxx_467 := cdv_ld hr_436 rfl ha_464 ex_467
                    obtain ⟨g_468, ha_469, hi_470⟩ := wf_arr (n := 450) (lo := (-2147483648)) (hi := 2147483647) hWF (wt12_12 hG Tu) (by decide) (fun _ => rfl)
                    have rg_471 : vp_in x_47 450 := ti_in (by omega) (by omega)
                    refine py_iast G0 hw ha_469 rg_471 dX12_clause_264 (fun f_472 H_473 locs h_474 x_475 hw => ?_)
                    have hkw : KP G [47] false f_450 f_472 := KP.refl.upd hWF x_475 (wt12_12 hG Tu) (Or.inl (by decide))
                    have hX9 := hX9.same ((x_475 _ (hWF _ (by rw [wt12_9 hG Tu]; decide)).1 (wf_ne (wt12_9 hG Tu) (wt12_12 hG Tu) (by decide))).2)
                    have hX10 := hX10.same ((x_475 _ (hWF _ (by rw [wt12_10 hG Tu]; decide)).1 (wf_ne (wt12_10 hG Tu) (wt12_12 hG Tu) (by decide))).2)
                    have hX11 := hX11.same ((x_475 _ (hWF _ (by rw [wt12_11 hG Tu]; decide)).1 (wf_ne (wt12_11 hG Tu) (wt12_12 hG Tu) (by decide))).2)
                    have hV10 := (arz_kp ((x_475 _ (hWF _ (by rw [wt12_10 hG Tu]; decide)).1 (wf_ne (wt12_10 hG Tu) (wt12_12 hG Tu) (by decide))).2) _).trans hV10
                    have hV11 := (arz_kp ((x_475 _ (hWF _ (by rw [wt12_11 hG Tu]; decide)).1 (wf_ne (wt12_11 hG Tu) (wt12_12 hG Tu) (by decide))).2) _).trans hV11
                    have hFK := hFK.same ((x_475 _ (hWF _ (by rw [Tu]; decide)).1 (wf_ne Tu (wt12_12 hG Tu) (by decide))).2)
                    have cq_476 := cdv_kp (f := f_450) (f1 := f_472) (m := u) (x_475 _ (hWF _ (by rw [wt12_8 hG Tu]; decide)).1 (wf_ne (wt12_8 hG Tu) (wt12_12 hG Tu) (by decide))).2 (mi_kp (x_475 u (hWF u (by rw [Tu]; decide)).1 (wf_ne Tu (wt12_12 hG Tu) (by decide))).2 14)
                    have kq_477 := clv_kp (f := f_450) (f1 := f_472) (m := u) (x_475 _ (hWF _ (by rw [wt12_9 hG Tu]; decide)).1 (wf_ne (wt12_9 hG Tu) (wt12_12 hG Tu) (by decide))).2 (mi_kp (x_475 u (hWF u (by rw [Tu]; decide)).1 (wf_ne Tu (wt12_12 hG Tu) (by decide))).2 14)
                    have hTR := hTR.same (f2 := f_472) (x_475 _ (hWF _ (by rw [wt12_6 hG Tu]; decide)).1 (wf_ne (wt12_6 hG Tu) (wt12_12 hG Tu) (by decide))).2 (x_475 _ (hWF _ (by rw [wt12_7 hG Tu]; decide)).1 (wf_ne (wt12_7 hG Tu) (wt12_12 hG Tu) (by decide))).2 (x_475 _ (hWF _ (by rw [wt12_8 hG Tu]; decide)).1 (wf_ne (wt12_8 hG Tu) (wt12_12 hG Tu) (by decide))).2 (mi_kp (x_475 u (hWF u (by rw [Tu]; decide)).1 (wf_ne Tu (wt12_12 hG Tu) (by decide))).2 14) (fun q => by have hz := mi_kp (x_475 u (hWF u (by rw [Tu]; decide)).1 (wf_ne Tu (wt12_12 hG Tu) (by decide))).2 4; omega)
                    have hKP := hKP.upd hWF x_475 (wt12_12 hG Tu) (Or.inl (by decide))
                    have hi_478 := wf_inu (k := (x_47 : Int32).toNatClampNeg) (x := x_467) hi_470 (wf_free x_467).1 (wf_free x_467).2
                    have hWF := wf_upd hWF h_474 x_475 (by rw [(wt12_12 hG Tu)]; exact ⟨_, rfl, hi_478⟩)
                    have hr_436 := hr_436.ext x_475 (py_ne_arr hr_436 ha_469)
                    have tq_479 := mi_row hr_436 2 rfl
                    have tq_480 := mi_row hr_436 3 rfl
                    have bv_433 := wf_free v_433
                    have tq_481 := mi_row hr_436 4 rfl
                    have bv_434 := wf_free v_434
                    have tq_482 := mi_row hr_436 5 rfl
                    have bv_435 := wf_free v_435
                    have tq_483 := mi_row hr_436 14 rfl
                    have h_452 := h_452.ext x_475 (wf_ne (wt12_11 hG Tu) (wt12_12 hG Tu) (by decide))
                    have h_164 := h_164.ext x_475 (wf_ne (wt12_10 hG Tu) (wt12_12 hG Tu) (by decide))
                    have ha_464 := ha_464.ext x_475 (wf_ne (wt12_8 hG Tu) (wt12_12 hG Tu) (by decide))
                    have hX12 := hX12.up ha_469 h_474 (by omega) (by omega)
                    have hV12 : arz f_472 (G.2 u 12) (90 * mi f u 14 + clv f G u) = cdv f_472 G u := by rw [show (90 * mi f u 14 + clv f G u) = x_47.toInt by omega, (arz_up ha_469 h_474 (by omega)).1]; omega
                    refine lv_aload_n G0.1 G0.2.1 dX12_clause_265 rfl (lv_at hl 2 rfl) ?_
                    refine py_get (C := RX12) (T := TX12) (N := 54) (k := 9) (v := .ref (G.2 u 9)) G0 hw in_X12_clause_X12 rfl hr_436 (by decide) (by decide +kernel) rfl dX12_clause_266 ?_
                    refine lv_aload_n G0.1 G0.2.1 dX12_clause_269 rfl (lv_at hl 2 rfl) ?_
                    refine py_get (C := RX12) (T := TX12) (N := 54) (k := 14) (v := .int v_106) G0 hw in_X12_clause_X12 rfl hr_436 (by decide) (by decide +kernel) rfl dX12_clause_270 ?_
                    refine lv_dup2_11 G0.1 G0.2.1 dX12_clause_273 rfl rfl ?_
                    obtain ⟨g_484, ha_485, hi_486⟩ := wf_arr (n := 5) (lo := 0) (hi := 90) hWF (wt12_9 hG Tu) (by decide) (fun _ => rfl)
                    have rg_487 : vp_in v_106 5 := ti_in (by omega) (by omega)
                    refine py_iald G0 hw ha_485 rg_487 dX12_clause_274 ?_
                    refine lv_topi (fun x_488 ex_488 => ?_)
                    have bx_488 := ti_at hi_486 rg_487 ex_488
                    have zx_488 := arz_ld ha_485 ex_488
                    have hkxx_488 := clv_ld hr_436 rfl ha_485 ex_488
                    refine lv_iconst (v := 1) G0.1 G0.2.1 dX12_clause_275 (by decide) ?_
                    refine lv_iadd G0.1 G0.2.1 dX12_clause_276 ?_
                    refine lv_topi (fun x_489 ex_489 => ?_)
                    first | have tx_489 := ti_add ex_489 (by omega -splitDisjunctions) (by omega -splitDisjunctions) | skip
                    have rg_490 : vp_in v_106 5 := ti_in (by omega) (by omega)
                    refine py_iast G0 hw ha_485 rg_490 dX12_clause_277 (fun f_491 H_492 locs h_493 x_494 hw => ?_)
                    have hkw : KP G [44] false f_472 f_491 := KP.refl.upd hWF x_494 (wt12_9 hG Tu) (Or.inl (by decide))
                    have hX10 := hX10.same ((x_494 _ (hWF _ (by rw [wt12_10 hG Tu]; decide)).1 (wf_ne (wt12_10 hG Tu) (wt12_9 hG Tu) (by decide))).2)
                    have hX11 := hX11.same ((x_494 _ (hWF _ (by rw [wt12_11 hG Tu]; decide)).1 (wf_ne (wt12_11 hG Tu) (wt12_9 hG Tu) (by decide))).2)
                    have hX12 := hX12.same ((x_494 _ (hWF _ (by rw [wt12_12 hG Tu]; decide)).1 (wf_ne (wt12_12 hG Tu) (wt12_9 hG Tu) (by decide))).2)
                    have hV10 := (arz_kp ((x_494 _ (hWF _ (by rw [wt12_10 hG Tu]; decide)).1 (wf_ne (wt12_10 hG Tu) (wt12_9 hG Tu) (by decide))).2) _).trans hV10
                    have hV11 := (arz_kp ((x_494 _ (hWF _ (by rw [wt12_11 hG Tu]; decide)).1 (wf_ne (wt12_11 hG Tu) (wt12_9 hG Tu) (by decide))).2) _).trans hV11
                    have hV12 := (arz_kp ((x_494 _ (hWF _ (by rw [wt12_12 hG Tu]; decide)).1 (wf_ne (wt12_12 hG Tu) (wt12_9 hG Tu) (by decide))).2) _).trans hV12
                    have hFK := hFK.same ((x_494 _ (hWF _ (by rw [Tu]; decide)).1 (wf_ne Tu (wt12_9 hG Tu) (by decide))).2)
                    have cq_495 := cdv_kp (f := f_472) (f1 := f_491) (m := u) (x_494 _ (hWF _ (by rw [wt12_8 hG Tu]; decide)).1 (wf_ne (wt12_8 hG Tu) (wt12_9 hG Tu) (by decide))).2 (mi_kp (x_494 u (hWF u (by rw [Tu]; decide)).1 (wf_ne Tu (wt12_9 hG Tu) (by decide))).2 14)
                    have hTR := hTR.same (f2 := f_491) (x_494 _ (hWF _ (by rw [wt12_6 hG Tu]; decide)).1 (wf_ne (wt12_6 hG Tu) (wt12_9 hG Tu) (by decide))).2 (x_494 _ (hWF _ (by rw [wt12_7 hG Tu]; decide)).1 (wf_ne (wt12_7 hG Tu) (wt12_9 hG Tu) (by decide))).2 (x_494 _ (hWF _ (by rw [wt12_8 hG Tu]; decide)).1 (wf_ne (wt12_8 hG Tu) (wt12_9 hG Tu) (by decide))).2 (mi_kp (x_494 u (hWF u (by rw [Tu]; decide)).1 (wf_ne Tu (wt12_9 hG Tu) (by decide))).2 14) (fun q => by have hz := mi_kp (x_494 u (hWF u (by rw [Tu]; decide)).1 (wf_ne Tu (wt12_9 hG Tu) (by decide))).2 4; omega)
                    have hKP := hKP.upd hWF x_494 (wt12_9 hG Tu) (Or.inl (by decide))
                    have hi_496 := wf_inu (k := (v_106 : Int32).toNatClampNeg) (x := x_489) hi_486 (by omega) (by omega)
                    have hWF := wf_upd hWF h_493 x_494 (by rw [(wt12_9 hG Tu)]; exact ⟨_, rfl, hi_496⟩)
                    have hr_436 := hr_436.ext x_494 (py_ne_arr hr_436 ha_485)
                    have tq_497 := mi_row hr_436 2 rfl
                    have tq_498 := mi_row hr_436 3 rfl
                    have bv_433 := wf_free v_433
                    have tq_499 := mi_row hr_436 4 rfl
                    have bv_434 := wf_free v_434
                    have tq_500 := mi_row hr_436 5 rfl
                    have bv_435 := wf_free v_435
                    have tq_501 := mi_row hr_436 14 rfl
                    have h_474 := h_474.ext x_494 (wf_ne (wt12_12 hG Tu) (wt12_9 hG Tu) (by decide))
                    have h_452 := h_452.ext x_494 (wf_ne (wt12_11 hG Tu) (wt12_9 hG Tu) (by decide))
                    have h_164 := h_164.ext x_494 (wf_ne (wt12_10 hG Tu) (wt12_9 hG Tu) (by decide))
                    have ha_464 := ha_464.ext x_494 (wf_ne (wt12_8 hG Tu) (wt12_9 hG Tu) (by decide))
                    have hX9 := hX9.up ha_485 h_493 (by omega) (by omega)
                    have hkn : clv f_491 G u = x_489.toInt := by unfold clv; rw [mi_kp (x_494 u (hWF u (by rw [Tu]; decide)).1 (wf_ne Tu (wt12_9 hG Tu) (by decide))).2 14, mi_row hr_436 14 rfl]; exact (arz_up ha_485 h_493 (by omega)).1
                    exact py_vret G0 hr hlk hw ⟨(by first | omega | (intro q; omega)), (by first | omega | (intro q; omega)), (by first | omega | (intro q; omega)), ⟨hTR.tp, hX10, hX11, hX12, hX9, by omega⟩, (fun hw => by first | exact absurd hw (by omega) | exact ⟨co_a hTR hw (by omega) (by omega) (by omega) (by omega), by omega⟩), hWF, hKP, hFK⟩ dX12_clause_278
                  · skip
                    exact absurd c_462 (by decide)
                · skip
                  exact absurd c_443 (by decide)
              · skip
                have tc_442 := ti_eq c_442
                replace en_428 := en_428 (by omega)
                refine lv_aload_n G0.1 G0.2.1 dX12_clause_151 rfl (lv_at hl 2 rfl) ?_
                refine py_calli hw (va_runV (As := []) (rest := []) G0 (c_X12_look l E G L_422 f_423 H_424.size u hG hWF Tu (show 0 ≤ mi f_423 u 3 ∧ mi f_423 u 3 ≤ mi f_423 u 2 by omega)) (cwV 0 G0.2.2.2.2 g_X12_clause_X12_look_146 rfl rfl rfl (by decide +kernel) ⟨(Nat.le_of_ble_eq_true rfl), (Nat.le_of_ble_eq_true rfl)⟩) (py_preV hw (C := RX12) (T := TX12) (N := 54) rfl hr_436) rfl rfl hl.1 rfl (lv_room (Nat.le_of_ble_eq_true rfl)) dX12_clause_152 ⟨(Nat.le_of_ble_eq_true rfl), (Nat.le_of_ble_eq_true rfl)⟩) (fun r_506 L_502 f_503 H_504 locs hp_505 hw => ?_)
                obtain ⟨en_507, en_508, en_509, hWF, kp_510, fk_511⟩ := hp_505
                have hX9 := hX9.same (kp_f kp_510 (wt12_9 hG Tu) (by decide) (by decide) (fun _ => by decide))
                have hX10 := hX10.same (kp_f kp_510 (wt12_10 hG Tu) (by decide) (by decide) (fun _ => by decide))
                have hX11 := hX11.same (kp_f kp_510 (wt12_11 hG Tu) (by decide) (by decide) (fun _ => by decide))
                have hX12 := hX12.same (kp_f kp_510 (wt12_12 hG Tu) (by decide) (by decide) (fun _ => by decide))
                have hV10 := (arz_kp (kp_f kp_510 (wt12_10 hG Tu) (by decide) (by decide) (fun _ => by decide)) _).trans hV10
                have cq_512 := cdv_k hG Tu kp_510 fk_511 (by decide)
                have kq_513 := clv_k hG Tu kp_510 fk_511 (by decide)
                have hFK := hFK.trans fk_511 (by decide)
                have hKP := hKP.trans kp_510 (by decide) (by decide)
                obtain ⟨v_514, hr_515⟩ := fk_3 hWF Tu fk_511 hr_436
                have tq_516 := mi_row hr_515 2 rfl
                have tq_517 := mi_row hr_515 3 rfl
                have bv_514 := wf_free v_514
                have tq_518 := mi_row hr_515 4 rfl
                have bv_434 := wf_free v_434
                have tq_519 := mi_row hr_515 5 rfl
                have bv_435 := wf_free v_435
                have tq_520 := mi_row hr_515 14 rfl
                have h_164 := kp_at kp_510 hWF (wt12_10 hG Tu) (by decide) (by decide) (by decide) h_164
                have hTR := hTR.kp hG Tu kp_510 fk_511 (by decide) (fun q => by omega)
                have br_506 := wf_free r_506
                refine py_calli hw (va_runS (As := [.int r_506]) (rest := []) G0 (c_X12_isSign l E G L_502 f_503 H_504.size r_506 hG hWF) (va_cwS 1 G0.2.2.2.2 g_X12_clause_X12_isSign_180 rfl rfl rfl (by decide +kernel) ⟨(Nat.le_of_ble_eq_true rfl), (Nat.le_of_ble_eq_true rfl)⟩) (py_preS hw) rfl rfl hl.1 rfl (lv_room (Nat.le_of_ble_eq_true rfl)) dX12_clause_155 ⟨(Nat.le_of_ble_eq_true rfl), (Nat.le_of_ble_eq_true rfl)⟩) (fun r_525 L_521 f_522 H_523 locs hp_524 hw => ?_)
                obtain ⟨b_527, en_526, rfl, rfl⟩ := hp_524
                refine lv_if_eq (tgt := 165) G0.1 G0.2.1 dX12_clause_158 (by decide) (fun c_528 => ?_) (fun c_528 => ?_)
                · skip
                  have tc_528 := ti_eq c_528
                  clear en_526
                  refine lv_iconst (v := 0) G0.1 G0.2.1 dX12_clause_165 (by decide) ?_
                  refine lv_istore_n (lv' := [(2, .int 0), (1, .int x_47), (0, .ref u)]) G0.1 G0.2.1 dX12_clause_166 rfl hl (by decide) rfl (fun ls hl => ?_)
                  refine lv_iload_n G0.1 G0.2.1 dX12_clause_167 rfl (lv_at hl 0 rfl) ?_
                  refine lv_if_eq (tgt := 183) G0.1 G0.2.1 dX12_clause_168 (by decide) (fun c_529 => ?_) (fun c_529 => ?_)
                  · skip
                    have tc_529 := ti_eq c_529
                    refine lv_aload_n G0.1 G0.2.1 dX12_clause_183 rfl (lv_at hl 2 rfl) ?_
                    refine py_get (C := RX12) (T := TX12) (N := 54) (k := 11) (v := .ref (G.2 u 11)) G0 hw in_X12_clause_X12 rfl hr_515 (by decide) (by decide +kernel) rfl dX12_clause_184 ?_
                    refine lv_iload_n G0.1 G0.2.1 dX12_clause_187 rfl (lv_at hl 1 rfl) ?_
                    refine lv_aload_n G0.1 G0.2.1 dX12_clause_188 rfl (lv_at hl 2 rfl) ?_
                    refine py_get (C := RX12) (T := TX12) (N := 54) (k := 10) (v := .ref (G.2 u 10)) G0 hw in_X12_clause_X12 rfl hr_515 (by decide) (by decide +kernel) rfl dX12_clause_189 ?_
                    refine lv_iload_n G0.1 G0.2.1 dX12_clause_192 rfl (lv_at hl 1 rfl) ?_
                    have rg_530 : vp_in x_47 450 := ti_in (by omega) (by omega)
                    refine py_iald G0 hw h_164 rg_530 dX12_clause_193 ?_
                    refine lv_topi (fun x_531 ex_531 => ?_)
                    have bx_531 := wf_free x_531
                    have zx_531 := arz_ld h_164 ex_531
                    obtain ⟨g_532, ha_533, hi_534⟩ := wf_arr (n := 450) (lo := (-2147483648)) (hi := 2147483647) hWF (wt12_11 hG Tu) (by decide) (fun _ => rfl)
                    have rg_535 : vp_in x_47 450 := ti_in (by omega) (by omega)
                    refine py_iast G0 hw ha_533 rg_535 dX12_clause_194 (fun f_536 H_537 locs h_538 x_539 hw => ?_)
                    have hkw : KP G [46] false f_503 f_536 := KP.refl.upd hWF x_539 (wt12_11 hG Tu) (Or.inl (by decide))
                    have hX9 := hX9.same ((x_539 _ (hWF _ (by rw [wt12_9 hG Tu]; decide)).1 (wf_ne (wt12_9 hG Tu) (wt12_11 hG Tu) (by decide))).2)
                    have hX10 := hX10.same ((x_539 _ (hWF _ (by rw [wt12_10 hG Tu]; decide)).1 (wf_ne (wt12_10 hG Tu) (wt12_11 hG Tu) (by decide))).2)
                    have hX12 := hX12.same ((x_539 _ (hWF _ (by rw [wt12_12 hG Tu]; decide)).1 (wf_ne (wt12_12 hG Tu) (wt12_11 hG Tu) (by decide))).2)
                    have hV10 := (arz_kp ((x_539 _ (hWF _ (by rw [wt12_10 hG Tu]; decide)).1 (wf_ne (wt12_10 hG Tu) (wt12_11 hG Tu) (by decide))).2) _).trans hV10
                    have hFK := hFK.same ((x_539 _ (hWF _ (by rw [Tu]; decide)).1 (wf_ne Tu (wt12_11 hG Tu) (by decide))).2)
                    have cq_540 := cdv_kp (f := f_503) (f1 := f_536) (m := u) (x_539 _ (hWF _ (by rw [wt12_8 hG Tu]; decide)).1 (wf_ne (wt12_8 hG Tu) (wt12_11 hG Tu) (by decide))).2 (mi_kp (x_539 u (hWF u (by rw [Tu]; decide)).1 (wf_ne Tu (wt12_11 hG Tu) (by decide))).2 14)
                    have kq_541 := clv_kp (f := f_503) (f1 := f_536) (m := u) (x_539 _ (hWF _ (by rw [wt12_9 hG Tu]; decide)).1 (wf_ne (wt12_9 hG Tu) (wt12_11 hG Tu) (by decide))).2 (mi_kp (x_539 u (hWF u (by rw [Tu]; decide)).1 (wf_ne Tu (wt12_11 hG Tu) (by decide))).2 14)
                    have hTR := hTR.same (f2 := f_536) (x_539 _ (hWF _ (by rw [wt12_6 hG Tu]; decide)).1 (wf_ne (wt12_6 hG Tu) (wt12_11 hG Tu) (by decide))).2 (x_539 _ (hWF _ (by rw [wt12_7 hG Tu]; decide)).1 (wf_ne (wt12_7 hG Tu) (wt12_11 hG Tu) (by decide))).2 (x_539 _ (hWF _ (by rw [wt12_8 hG Tu]; decide)).1 (wf_ne (wt12_8 hG Tu) (wt12_11 hG Tu) (by decide))).2 (mi_kp (x_539 u (hWF u (by rw [Tu]; decide)).1 (wf_ne Tu (wt12_11 hG Tu) (by decide))).2 14) (fun q => by have hz := mi_kp (x_539 u (hWF u (by rw [Tu]; decide)).1 (wf_ne Tu (wt12_11 hG Tu) (by decide))).2 4; omega)
                    have hKP := hKP.upd hWF x_539 (wt12_11 hG Tu) (Or.inl (by decide))
                    have hi_542 := wf_inu (k := (x_47 : Int32).toNatClampNeg) (x := x_531) hi_534 (wf_free x_531).1 (wf_free x_531).2
                    have hWF := wf_upd hWF h_538 x_539 (by rw [(wt12_11 hG Tu)]; exact ⟨_, rfl, hi_542⟩)
                    have hr_515 := hr_515.ext x_539 (py_ne_arr hr_515 ha_533)
                    have tq_543 := mi_row hr_515 2 rfl
                    have tq_544 := mi_row hr_515 3 rfl
                    have bv_514 := wf_free v_514
                    have tq_545 := mi_row hr_515 4 rfl
                    have bv_434 := wf_free v_434
                    have tq_546 := mi_row hr_515 5 rfl
                    have bv_435 := wf_free v_435
                    have tq_547 := mi_row hr_515 14 rfl
                    have h_164 := h_164.ext x_539 (wf_ne (wt12_10 hG Tu) (wt12_11 hG Tu) (by decide))
                    have hX11 := hX11.up ha_533 h_538 (by omega) (by omega)
                    have hV11 : arz f_536 (G.2 u 11) (90 * mi f u 14 + clv f G u) = cdv f G u := by rw [show (90 * mi f u 14 + clv f G u) = x_47.toInt by omega, (arz_up ha_533 h_538 (by omega)).1]; omega
                    refine lv_iload_n G0.1 G0.2.1 dX12_clause_195 rfl (lv_at hl 0 rfl) ?_
                    refine lv_if_eq (tgt := 250) G0.1 G0.2.1 dX12_clause_196 (by decide) (fun c_548 => ?_) (fun c_548 => ?_)
                    · skip
                      have tc_548 := ti_eq c_548
                      refine lv_aload_n G0.1 G0.2.1 dX12_clause_250 rfl (lv_at hl 2 rfl) ?_
                      refine py_get (C := RX12) (T := TX12) (N := 54) (k := 12) (v := .ref (G.2 u 12)) G0 hw in_X12_clause_X12 rfl hr_515 (by decide) (by decide +kernel) rfl dX12_clause_251 ?_
                      refine lv_iload_n G0.1 G0.2.1 dX12_clause_254 rfl (lv_at hl 1 rfl) ?_
                      refine lv_aload_n G0.1 G0.2.1 dX12_clause_255 rfl (lv_at hl 2 rfl) ?_
                      refine py_get (C := RX12) (T := TX12) (N := 54) (k := 8) (v := .ref (G.2 u 8)) G0 hw in_X12_clause_X12 rfl hr_515 (by decide) (by decide +kernel) rfl dX12_clause_256 ?_
                      refine lv_aload_n G0.1 G0.2.1 dX12_clause_259 rfl (lv_at hl 2 rfl) ?_
                      refine py_get (C := RX12) (T := TX12) (N := 54) (k := 14) (v := .int v_106) G0 hw in_X12_clause_X12 rfl hr_515 (by decide) (by decide +kernel) rfl dX12_clause_260 ?_
                      obtain ⟨g_549, ha_550, hi_551⟩ := wf_arr (n := 5) (lo := 0) (hi := 340) hWF (wt12_8 hG Tu) (by decide) (fun _ => rfl)
                      have rg_552 : vp_in v_106 5 := ti_in (by omega) (by omega)
                      refine py_iald G0 hw ha_550 rg_552 dX12_clause_263 ?_
                      refine lv_topi (fun x_553 ex_553 => ?_)
                      have bx_553 := ti_at hi_551 rg_552 ex_553
                      have zx_553 := arz_ld ha_550 ex_553
                      have hcxx_553 := cdv_ld hr_515 rfl ha_550 ex_553
                      obtain ⟨g_554, ha_555, hi_556⟩ := wf_arr (n := 450) (lo := (-2147483648)) (hi := 2147483647) hWF (wt12_12 hG Tu) (by decide) (fun _ => rfl)
                      have rg_557 : vp_in x_47 450 := ti_in (by omega) (by omega)
                      refine py_iast G0 hw ha_555 rg_557 dX12_clause_264 (fun f_558 H_559 locs h_560 x_561 hw => ?_)
                      have hkw : KP G [47] false f_536 f_558 := KP.refl.upd hWF x_561 (wt12_12 hG Tu) (Or.inl (by decide))
                      have hX9 := hX9.same ((x_561 _ (hWF _ (by rw [wt12_9 hG Tu]; decide)).1 (wf_ne (wt12_9 hG Tu) (wt12_12 hG Tu) (by decide))).2)
                      have hX10 := hX10.same ((x_561 _ (hWF _ (by rw [wt12_10 hG Tu]; decide)).1 (wf_ne (wt12_10 hG Tu) (wt12_12 hG Tu) (by decide))).2)
                      have hX11 := hX11.same ((x_561 _ (hWF _ (by rw [wt12_11 hG Tu]; decide)).1 (wf_ne (wt12_11 hG Tu) (wt12_12 hG Tu) (by decide))).2)
                      have hV10 := (arz_kp ((x_561 _ (hWF _ (by rw [wt12_10 hG Tu]; decide)).1 (wf_ne (wt12_10 hG Tu) (wt12_12 hG Tu) (by decide))).2) _).trans hV10
                      have hV11 := (arz_kp ((x_561 _ (hWF _ (by rw [wt12_11 hG Tu]; decide)).1 (wf_ne (wt12_11 hG Tu) (wt12_12 hG Tu) (by decide))).2) _).trans hV11
                      have hFK := hFK.same ((x_561 _ (hWF _ (by rw [Tu]; decide)).1 (wf_ne Tu (wt12_12 hG Tu) (by decide))).2)
                      have cq_562 := cdv_kp (f := f_536) (f1 := f_558) (m := u) (x_561 _ (hWF _ (by rw [wt12_8 hG Tu]; decide)).1 (wf_ne (wt12_8 hG Tu) (wt12_12 hG Tu) (by decide))).2 (mi_kp (x_561 u (hWF u (by rw [Tu]; decide)).1 (wf_ne Tu (wt12_12 hG Tu) (by decide))).2 14)
                      have kq_563 := clv_kp (f := f_536) (f1 := f_558) (m := u) (x_561 _ (hWF _ (by rw [wt12_9 hG Tu]; decide)).1 (wf_ne (wt12_9 hG Tu) (wt12_12 hG Tu) (by decide))).2 (mi_kp (x_561 u (hWF u (by rw [Tu]; decide)).1 (wf_ne Tu (wt12_12 hG Tu) (by decide))).2 14)
                      have hTR := hTR.same (f2 := f_558) (x_561 _ (hWF _ (by rw [wt12_6 hG Tu]; decide)).1 (wf_ne (wt12_6 hG Tu) (wt12_12 hG Tu) (by decide))).2 (x_561 _ (hWF _ (by rw [wt12_7 hG Tu]; decide)).1 (wf_ne (wt12_7 hG Tu) (wt12_12 hG Tu) (by decide))).2 (x_561 _ (hWF _ (by rw [wt12_8 hG Tu]; decide)).1 (wf_ne (wt12_8 hG Tu) (wt12_12 hG Tu) (by decide))).2 (mi_kp (x_561 u (hWF u (by rw [Tu]; decide)).1 (wf_ne Tu (wt12_12 hG Tu) (by decide))).2 14) (fun q => by have hz := mi_kp (x_561 u (hWF u (by rw [Tu]; decide)).1 (wf_ne Tu (wt12_12 hG Tu) (by decide))).2 4; omega)
                      have hKP := hKP.upd hWF x_561 (wt12_12 hG Tu) (Or.inl (by decide))
                      have hi_564 := wf_inu (k := (x_47 : Int32).toNatClampNeg) (x := x_553) hi_556 (wf_free x_553).1 (wf_free x_553).2
                      have hWF := wf_upd hWF h_560 x_561 (by rw [(wt12_12 hG Tu)]; exact ⟨_, rfl, hi_564⟩)
                      have hr_515 := hr_515.ext x_561 (py_ne_arr hr_515 ha_555)
                      have tq_565 := mi_row hr_515 2 rfl
                      have tq_566 := mi_row hr_515 3 rfl
                      have bv_514 := wf_free v_514
                      have tq_567 := mi_row hr_515 4 rfl
                      have bv_434 := wf_free v_434
                      have tq_568 := mi_row hr_515 5 rfl
                      have bv_435 := wf_free v_435
                      have tq_569 := mi_row hr_515 14 rfl
                      have h_538 := h_538.ext x_561 (wf_ne (wt12_11 hG Tu) (wt12_12 hG Tu) (by decide))
                      have h_164 := h_164.ext x_561 (wf_ne (wt12_10 hG Tu) (wt12_12 hG Tu) (by decide))
                      have ha_550 := ha_550.ext x_561 (wf_ne (wt12_8 hG Tu) (wt12_12 hG Tu) (by decide))
                      have hX12 := hX12.up ha_555 h_560 (by omega) (by omega)
                      have hV12 : arz f_558 (G.2 u 12) (90 * mi f u 14 + clv f G u) = cdv f_558 G u := by rw [show (90 * mi f u 14 + clv f G u) = x_47.toInt by omega, (arz_up ha_555 h_560 (by omega)).1]; omega
                      refine lv_aload_n G0.1 G0.2.1 dX12_clause_265 rfl (lv_at hl 2 rfl) ?_
                      refine py_get (C := RX12) (T := TX12) (N := 54) (k := 9) (v := .ref (G.2 u 9)) G0 hw in_X12_clause_X12 rfl hr_515 (by decide) (by decide +kernel) rfl dX12_clause_266 ?_
                      refine lv_aload_n G0.1 G0.2.1 dX12_clause_269 rfl (lv_at hl 2 rfl) ?_
                      refine py_get (C := RX12) (T := TX12) (N := 54) (k := 14) (v := .int v_106) G0 hw in_X12_clause_X12 rfl hr_515 (by decide) (by decide +kernel) rfl dX12_clause_270 ?_
                      refine lv_dup2_11 G0.1 G0.2.1 dX12_clause_273 rfl rfl ?_
                      obtain ⟨g_570, ha_571, hi_572⟩ := wf_arr (n := 5) (lo := 0) (hi := 90) hWF (wt12_9 hG Tu) (by decide) (fun _ => rfl)
                      have rg_573 : vp_in v_106 5 := ti_in (by omega) (by omega)
                      refine py_iald G0 hw ha_571 rg_573 dX12_clause_274 ?_
                      refine lv_topi (fun x_574 ex_574 => ?_)
                      have bx_574 := ti_at hi_572 rg_573 ex_574
                      have zx_574 := arz_ld ha_571 ex_574
                      have hkxx_574 := clv_ld hr_515 rfl ha_571 ex_574
                      refine lv_iconst (v := 1) G0.1 G0.2.1 dX12_clause_275 (by decide) ?_
                      refine lv_iadd G0.1 G0.2.1 dX12_clause_276 ?_
                      refine lv_topi (fun x_575 ex_575 => ?_)
                      first | have tx_575 := ti_add ex_575 (by omega -splitDisjunctions) (by omega -splitDisjunctions) | skip
                      have rg_576 : vp_in v_106 5 := ti_in (by omega) (by omega)
                      refine py_iast G0 hw ha_571 rg_576 dX12_clause_277 (fun f_577 H_578 locs h_579 x_580 hw => ?_)
                      have hkw : KP G [44] false f_558 f_577 := KP.refl.upd hWF x_580 (wt12_9 hG Tu) (Or.inl (by decide))
                      have hX10 := hX10.same ((x_580 _ (hWF _ (by rw [wt12_10 hG Tu]; decide)).1 (wf_ne (wt12_10 hG Tu) (wt12_9 hG Tu) (by decide))).2)
                      have hX11 := hX11.same ((x_580 _ (hWF _ (by rw [wt12_11 hG Tu]; decide)).1 (wf_ne (wt12_11 hG Tu) (wt12_9 hG Tu) (by decide))).2)
                      have hX12 := hX12.same ((x_580 _ (hWF _ (by rw [wt12_12 hG Tu]; decide)).1 (wf_ne (wt12_12 hG Tu) (wt12_9 hG Tu) (by decide))).2)
                      have hV10 := (arz_kp ((x_580 _ (hWF _ (by rw [wt12_10 hG Tu]; decide)).1 (wf_ne (wt12_10 hG Tu) (wt12_9 hG Tu) (by decide))).2) _).trans hV10
                      have hV11 := (arz_kp ((x_580 _ (hWF _ (by rw [wt12_11 hG Tu]; decide)).1 (wf_ne (wt12_11 hG Tu) (wt12_9 hG Tu) (by decide))).2) _).trans hV11
                      have hV12 := (arz_kp ((x_580 _ (hWF _ (by rw [wt12_12 hG Tu]; decide)).1 (wf_ne (wt12_12 hG Tu) (wt12_9 hG Tu) (by decide))).2) _).trans hV12
                      have hFK := hFK.same ((x_580 _ (hWF _ (by rw [Tu]; decide)).1 (wf_ne Tu (wt12_9 hG Tu) (by decide))).2)
                      have cq_581 := cdv_kp (f := f_558) (f1 := f_577) (m := u) (x_580 _ (hWF _ (by rw [wt12_8 hG Tu]; decide)).1 (wf_ne (wt12_8 hG Tu) (wt12_9 hG Tu) (by decide))).2 (mi_kp (x_580 u (hWF u (by rw [Tu]; decide)).1 (wf_ne Tu (wt12_9 hG Tu) (by decide))).2 14)
                      have hTR := hTR.same (f2 := f_577) (x_580 _ (hWF _ (by rw [wt12_6 hG Tu]; decide)).1 (wf_ne (wt12_6 hG Tu) (wt12_9 hG Tu) (by decide))).2 (x_580 _ (hWF _ (by rw [wt12_7 hG Tu]; decide)).1 (wf_ne (wt12_7 hG Tu) (wt12_9 hG Tu) (by decide))).2 (x_580 _ (hWF _ (by rw [wt12_8 hG Tu]; decide)).1 (wf_ne (wt12_8 hG Tu) (wt12_9 hG Tu) (by decide))).2 (mi_kp (x_580 u (hWF u (by rw [Tu]; decide)).1 (wf_ne Tu (wt12_9 hG Tu) (by decide))).2 14) (fun q => by have hz := mi_kp (x_580 u (hWF u (by rw [Tu]; decide)).1 (wf_ne Tu (wt12_9 hG Tu) (by decide))).2 4; omega)
                      have hKP := hKP.upd hWF x_580 (wt12_9 hG Tu) (Or.inl (by decide))
                      have hi_582 := wf_inu (k := (v_106 : Int32).toNatClampNeg) (x := x_575) hi_572 (by omega) (by omega)
                      have hWF := wf_upd hWF h_579 x_580 (by rw [(wt12_9 hG Tu)]; exact ⟨_, rfl, hi_582⟩)
                      have hr_515 := hr_515.ext x_580 (py_ne_arr hr_515 ha_571)
                      have tq_583 := mi_row hr_515 2 rfl
                      have tq_584 := mi_row hr_515 3 rfl
                      have bv_514 := wf_free v_514
                      have tq_585 := mi_row hr_515 4 rfl
                      have bv_434 := wf_free v_434
                      have tq_586 := mi_row hr_515 5 rfl
                      have bv_435 := wf_free v_435
                      have tq_587 := mi_row hr_515 14 rfl
                      have h_560 := h_560.ext x_580 (wf_ne (wt12_12 hG Tu) (wt12_9 hG Tu) (by decide))
                      have h_538 := h_538.ext x_580 (wf_ne (wt12_11 hG Tu) (wt12_9 hG Tu) (by decide))
                      have h_164 := h_164.ext x_580 (wf_ne (wt12_10 hG Tu) (wt12_9 hG Tu) (by decide))
                      have ha_550 := ha_550.ext x_580 (wf_ne (wt12_8 hG Tu) (wt12_9 hG Tu) (by decide))
                      have hX9 := hX9.up ha_571 h_579 (by omega) (by omega)
                      have hkn : clv f_577 G u = x_575.toInt := by unfold clv; rw [mi_kp (x_580 u (hWF u (by rw [Tu]; decide)).1 (wf_ne Tu (wt12_9 hG Tu) (by decide))).2 14, mi_row hr_515 14 rfl]; exact (arz_up ha_571 h_579 (by omega)).1
                      exact py_vret G0 hr hlk hw ⟨(by first | omega | (intro q; omega)), (by first | omega | (intro q; omega)), (by first | omega | (intro q; omega)), ⟨hTR.tp, hX10, hX11, hX12, hX9, by omega⟩, (fun hw => by first | exact absurd hw (by omega) | exact ⟨co_a hTR hw (by omega) (by omega) (by omega) (by omega), by omega⟩), hWF, hKP, hFK⟩ dX12_clause_278
                    · skip
                      exact absurd c_548 (by decide)
                  · skip
                    exact absurd c_529 (by decide)
                · skip
                  have tc_528 := ti_ne c_528
                  replace en_526 := en_526 (by omega)
                  refine lv_iconst (v := 1) G0.1 G0.2.1 dX12_clause_161 (by decide) ?_
                  refine lv_goto (tgt := 166) G0.1 G0.2.1 dX12_clause_162 (by decide) ?_
                  refine lv_istore_n (lv' := [(2, .int 1), (1, .int x_47), (0, .ref u)]) G0.1 G0.2.1 dX12_clause_166 rfl hl (by decide) rfl (fun ls hl => ?_)
                  refine lv_iload_n G0.1 G0.2.1 dX12_clause_167 rfl (lv_at hl 0 rfl) ?_
                  refine lv_if_eq (tgt := 183) G0.1 G0.2.1 dX12_clause_168 (by decide) (fun c_588 => ?_) (fun c_588 => ?_)
                  · skip
                    exact absurd c_588 (by decide)
                  · skip
                    have tc_588 := ti_ne c_588
                    refine lv_aload_n G0.1 G0.2.1 dX12_clause_171 rfl (lv_at hl 2 rfl) ?_
                    refine py_callv hw (va_runV (As := []) (rest := []) G0 (rq_compare l E G hG L_502 f_503 H_523.size u hWF Tu (show (mi f_503 u 4 = -1 → 0 ≤ mi f_503 u 5 ∧ mi f_503 u 5 ≤ 6 ∧ mi f_503 u 3 ≤ mi f_503 u 2) ∧ 0 ≤ mi f_503 u 3 ∧ cdv f_503 G u ≤ mi f_503 u 3 by omega)) (cwV 0 G0.2.2.2.2 g_X12_clause_X12_compare_189 rfl rfl rfl (by decide +kernel) ⟨(Nat.le_of_ble_eq_true rfl), (Nat.le_of_ble_eq_true rfl)⟩) (py_preV hw (C := RX12) (T := TX12) (N := 54) rfl hr_515) rfl rfl hl.1 rfl (lv_room (Nat.le_of_ble_eq_true rfl)) dX12_clause_172 ⟨(Nat.le_of_ble_eq_true rfl), (Nat.le_of_ble_eq_true rfl)⟩) (fun L_589 f_590 H_591 locs hp_592 hw => ?_)
                    obtain ⟨en_594, en_595, en_596, en_597, en_598, hWF, kp_599, fk_600⟩ := hp_592
                    have hX9 := hX9.same (kp_f kp_599 (wt12_9 hG Tu) (by decide) (by decide) (fun _ => by decide))
                    have hX10 := hX10.same (kp_f kp_599 (wt12_10 hG Tu) (by decide) (by decide) (fun _ => by decide))
                    have hX11 := hX11.same (kp_f kp_599 (wt12_11 hG Tu) (by decide) (by decide) (fun _ => by decide))
                    have hX12 := hX12.same (kp_f kp_599 (wt12_12 hG Tu) (by decide) (by decide) (fun _ => by decide))
                    have hV10 := (arz_kp (kp_f kp_599 (wt12_10 hG Tu) (by decide) (by decide) (fun _ => by decide)) _).trans hV10
                    have kq_601 := clv_k hG Tu kp_599 fk_600 (by decide)
                    have hFK := hFK.trans fk_600 (by decide)
                    have hKP := hKP.trans kp_599 (by decide) (by decide)
                    obtain ⟨v_602, v_603, v_604, hr_605⟩ := fk_3_4_5 hWF Tu fk_600 hr_515
                    have tq_606 := mi_row hr_605 2 rfl
                    have tq_607 := mi_row hr_605 3 rfl
                    have bv_602 := wf_free v_602
                    have tq_608 := mi_row hr_605 4 rfl
                    have bv_603 := wf_free v_603
                    have tq_609 := mi_row hr_605 5 rfl
                    have bv_604 := wf_free v_604
                    have tq_610 := mi_row hr_605 14 rfl
                    have h_164 := kp_at kp_599 hWF (wt12_10 hG Tu) (by decide) (by decide) (by decide) h_164
                    have hTR : TR f f_590 G u (80) 0 1 := hTR.trans (en_598.lift (b := 0) (by omega) (by omega) (by omega) (by omega)) (fun q => by omega)
                    refine lv_aload_n G0.1 G0.2.1 dX12_clause_175 rfl (lv_at hl 2 rfl) ?_
                    refine py_callv hw (va_runV (As := []) (rest := []) G0 (rq_goOnAnd l E G hG L_589 f_590 H_591.size u hWF Tu (show (mi f_590 u 4 = -1 → 0 ≤ mi f_590 u 5 ∧ mi f_590 u 5 ≤ 6 ∧ mi f_590 u 3 ≤ mi f_590 u 2) ∧ 0 ≤ mi f_590 u 3 ∧ cdv f_590 G u ≤ mi f_590 u 3 by omega)) (cwV 0 G0.2.2.2.2 g_X12_clause_X12_goOnAnd_192 rfl rfl rfl (by decide +kernel) ⟨(Nat.le_of_ble_eq_true rfl), (Nat.le_of_ble_eq_true rfl)⟩) (py_preV hw (C := RX12) (T := TX12) (N := 54) rfl hr_605) rfl rfl hl.1 rfl (lv_room (Nat.le_of_ble_eq_true rfl)) dX12_clause_176 ⟨(Nat.le_of_ble_eq_true rfl), (Nat.le_of_ble_eq_true rfl)⟩) (fun L_611 f_612 H_613 locs hp_614 hw => ?_)
                    obtain ⟨en_616, en_617, en_618, en_619, en_620, hWF, kp_621, fk_622⟩ := hp_614
                    have hX9 := hX9.same (kp_f kp_621 (wt12_9 hG Tu) (by decide) (by decide) (fun _ => by decide))
                    have hX10 := hX10.same (kp_f kp_621 (wt12_10 hG Tu) (by decide) (by decide) (fun _ => by decide))
                    have hX11 := hX11.same (kp_f kp_621 (wt12_11 hG Tu) (by decide) (by decide) (fun _ => by decide))
                    have hX12 := hX12.same (kp_f kp_621 (wt12_12 hG Tu) (by decide) (by decide) (fun _ => by decide))
                    have hV10 := (arz_kp (kp_f kp_621 (wt12_10 hG Tu) (by decide) (by decide) (fun _ => by decide)) _).trans hV10
                    have kq_623 := clv_k hG Tu kp_621 fk_622 (by decide)
                    have hFK := hFK.trans fk_622 (by decide)
                    have hKP := hKP.trans kp_621 (by decide) (by decide)
                    obtain ⟨v_624, v_625, v_626, hr_627⟩ := fk_3_4_5 hWF Tu fk_622 hr_605
                    have tq_628 := mi_row hr_627 2 rfl
                    have tq_629 := mi_row hr_627 3 rfl
                    have bv_624 := wf_free v_624
                    have tq_630 := mi_row hr_627 4 rfl
                    have bv_625 := wf_free v_625
                    have tq_631 := mi_row hr_627 5 rfl
                    have bv_626 := wf_free v_626
                    have tq_632 := mi_row hr_627 14 rfl
                    have h_164 := kp_at kp_621 hWF (wt12_10 hG Tu) (by decide) (by decide) (by decide) h_164
                    have hTR : TR f f_612 G u (80) 0 1 := hTR.trans (en_620.lift (b := 0) (by omega) (by omega) (by omega) (by omega)) (fun q => by omega)
                    refine lv_aload_n G0.1 G0.2.1 dX12_clause_179 rfl (lv_at hl 2 rfl) ?_
                    refine py_callv hw (va_runV (As := []) (rest := []) G0 (rq_goOnOr l E G hG L_611 f_612 H_613.size u hWF Tu (show (mi f_612 u 4 = -1 → 0 ≤ mi f_612 u 5 ∧ mi f_612 u 5 ≤ 6 ∧ mi f_612 u 3 ≤ mi f_612 u 2) ∧ 0 ≤ mi f_612 u 3 ∧ cdv f_612 G u ≤ mi f_612 u 3 by omega)) (cwV 0 G0.2.2.2.2 g_X12_clause_X12_goOnOr_195 rfl rfl rfl (by decide +kernel) ⟨(Nat.le_of_ble_eq_true rfl), (Nat.le_of_ble_eq_true rfl)⟩) (py_preV hw (C := RX12) (T := TX12) (N := 54) rfl hr_627) rfl rfl hl.1 rfl (lv_room (Nat.le_of_ble_eq_true rfl)) dX12_clause_180 ⟨(Nat.le_of_ble_eq_true rfl), (Nat.le_of_ble_eq_true rfl)⟩) (fun L_633 f_634 H_635 locs hp_636 hw => ?_)
                    obtain ⟨en_638, en_639, en_640, en_641, en_642, hWF, kp_643, fk_644⟩ := hp_636
                    have hX9 := hX9.same (kp_f kp_643 (wt12_9 hG Tu) (by decide) (by decide) (fun _ => by decide))
                    have hX10 := hX10.same (kp_f kp_643 (wt12_10 hG Tu) (by decide) (by decide) (fun _ => by decide))
                    have hX11 := hX11.same (kp_f kp_643 (wt12_11 hG Tu) (by decide) (by decide) (fun _ => by decide))
                    have hX12 := hX12.same (kp_f kp_643 (wt12_12 hG Tu) (by decide) (by decide) (fun _ => by decide))
                    have hV10 := (arz_kp (kp_f kp_643 (wt12_10 hG Tu) (by decide) (by decide) (fun _ => by decide)) _).trans hV10
                    have kq_645 := clv_k hG Tu kp_643 fk_644 (by decide)
                    have hFK := hFK.trans fk_644 (by decide)
                    have hKP := hKP.trans kp_643 (by decide) (by decide)
                    obtain ⟨v_646, v_647, v_648, hr_649⟩ := fk_3_4_5 hWF Tu fk_644 hr_627
                    have tq_650 := mi_row hr_649 2 rfl
                    have tq_651 := mi_row hr_649 3 rfl
                    have bv_646 := wf_free v_646
                    have tq_652 := mi_row hr_649 4 rfl
                    have bv_647 := wf_free v_647
                    have tq_653 := mi_row hr_649 5 rfl
                    have bv_648 := wf_free v_648
                    have tq_654 := mi_row hr_649 14 rfl
                    have h_164 := kp_at kp_643 hWF (wt12_10 hG Tu) (by decide) (by decide) (by decide) h_164
                    have hTR : TR f f_634 G u (80) 0 1 := hTR.trans (en_642.lift (b := 0) (by omega) (by omega) (by omega) (by omega)) (fun q => by omega)
                    refine lv_aload_n G0.1 G0.2.1 dX12_clause_183 rfl (lv_at hl 2 rfl) ?_
                    refine py_get (C := RX12) (T := TX12) (N := 54) (k := 11) (v := .ref (G.2 u 11)) G0 hw in_X12_clause_X12 rfl hr_649 (by decide) (by decide +kernel) rfl dX12_clause_184 ?_
                    refine lv_iload_n G0.1 G0.2.1 dX12_clause_187 rfl (lv_at hl 1 rfl) ?_
                    refine lv_aload_n G0.1 G0.2.1 dX12_clause_188 rfl (lv_at hl 2 rfl) ?_
                    refine py_get (C := RX12) (T := TX12) (N := 54) (k := 10) (v := .ref (G.2 u 10)) G0 hw in_X12_clause_X12 rfl hr_649 (by decide) (by decide +kernel) rfl dX12_clause_189 ?_
                    refine lv_iload_n G0.1 G0.2.1 dX12_clause_192 rfl (lv_at hl 1 rfl) ?_
                    have rg_655 : vp_in x_47 450 := ti_in (by omega) (by omega)
                    refine py_iald G0 hw h_164 rg_655 dX12_clause_193 ?_
                    refine lv_topi (fun x_656 ex_656 => ?_)
                    have bx_656 := wf_free x_656
                    have zx_656 := arz_ld h_164 ex_656
                    obtain ⟨g_657, ha_658, hi_659⟩ := wf_arr (n := 450) (lo := (-2147483648)) (hi := 2147483647) hWF (wt12_11 hG Tu) (by decide) (fun _ => rfl)
                    have rg_660 : vp_in x_47 450 := ti_in (by omega) (by omega)
                    refine py_iast G0 hw ha_658 rg_660 dX12_clause_194 (fun f_661 H_662 locs h_663 x_664 hw => ?_)
                    have hkw : KP G [46] false f_634 f_661 := KP.refl.upd hWF x_664 (wt12_11 hG Tu) (Or.inl (by decide))
                    have hX9 := hX9.same ((x_664 _ (hWF _ (by rw [wt12_9 hG Tu]; decide)).1 (wf_ne (wt12_9 hG Tu) (wt12_11 hG Tu) (by decide))).2)
                    have hX10 := hX10.same ((x_664 _ (hWF _ (by rw [wt12_10 hG Tu]; decide)).1 (wf_ne (wt12_10 hG Tu) (wt12_11 hG Tu) (by decide))).2)
                    have hX12 := hX12.same ((x_664 _ (hWF _ (by rw [wt12_12 hG Tu]; decide)).1 (wf_ne (wt12_12 hG Tu) (wt12_11 hG Tu) (by decide))).2)
                    have hV10 := (arz_kp ((x_664 _ (hWF _ (by rw [wt12_10 hG Tu]; decide)).1 (wf_ne (wt12_10 hG Tu) (wt12_11 hG Tu) (by decide))).2) _).trans hV10
                    have hFK := hFK.same ((x_664 _ (hWF _ (by rw [Tu]; decide)).1 (wf_ne Tu (wt12_11 hG Tu) (by decide))).2)
                    have cq_665 := cdv_kp (f := f_634) (f1 := f_661) (m := u) (x_664 _ (hWF _ (by rw [wt12_8 hG Tu]; decide)).1 (wf_ne (wt12_8 hG Tu) (wt12_11 hG Tu) (by decide))).2 (mi_kp (x_664 u (hWF u (by rw [Tu]; decide)).1 (wf_ne Tu (wt12_11 hG Tu) (by decide))).2 14)
                    have kq_666 := clv_kp (f := f_634) (f1 := f_661) (m := u) (x_664 _ (hWF _ (by rw [wt12_9 hG Tu]; decide)).1 (wf_ne (wt12_9 hG Tu) (wt12_11 hG Tu) (by decide))).2 (mi_kp (x_664 u (hWF u (by rw [Tu]; decide)).1 (wf_ne Tu (wt12_11 hG Tu) (by decide))).2 14)
                    have hTR := hTR.same (f2 := f_661) (x_664 _ (hWF _ (by rw [wt12_6 hG Tu]; decide)).1 (wf_ne (wt12_6 hG Tu) (wt12_11 hG Tu) (by decide))).2 (x_664 _ (hWF _ (by rw [wt12_7 hG Tu]; decide)).1 (wf_ne (wt12_7 hG Tu) (wt12_11 hG Tu) (by decide))).2 (x_664 _ (hWF _ (by rw [wt12_8 hG Tu]; decide)).1 (wf_ne (wt12_8 hG Tu) (wt12_11 hG Tu) (by decide))).2 (mi_kp (x_664 u (hWF u (by rw [Tu]; decide)).1 (wf_ne Tu (wt12_11 hG Tu) (by decide))).2 14) (fun q => by have hz := mi_kp (x_664 u (hWF u (by rw [Tu]; decide)).1 (wf_ne Tu (wt12_11 hG Tu) (by decide))).2 4; omega)
                    have hKP := hKP.upd hWF x_664 (wt12_11 hG Tu) (Or.inl (by decide))
                    have hi_667 := wf_inu (k := (x_47 : Int32).toNatClampNeg) (x := x_656) hi_659 (wf_free x_656).1 (wf_free x_656).2
                    have hWF := wf_upd hWF h_663 x_664 (by rw [(wt12_11 hG Tu)]; exact ⟨_, rfl, hi_667⟩)
                    have hr_649 := hr_649.ext x_664 (py_ne_arr hr_649 ha_658)
                    have tq_668 := mi_row hr_649 2 rfl
                    have tq_669 := mi_row hr_649 3 rfl
                    have bv_646 := wf_free v_646
                    have tq_670 := mi_row hr_649 4 rfl
                    have bv_647 := wf_free v_647
                    have tq_671 := mi_row hr_649 5 rfl
                    have bv_648 := wf_free v_648
                    have tq_672 := mi_row hr_649 14 rfl
                    have h_164 := h_164.ext x_664 (wf_ne (wt12_10 hG Tu) (wt12_11 hG Tu) (by decide))
                    have hX11 := hX11.up ha_658 h_663 (by omega) (by omega)
                    have hV11 : arz f_661 (G.2 u 11) (90 * mi f u 14 + clv f G u) = cdv f G u := by rw [show (90 * mi f u 14 + clv f G u) = x_47.toInt by omega, (arz_up ha_658 h_663 (by omega)).1]; omega
                    refine lv_iload_n G0.1 G0.2.1 dX12_clause_195 rfl (lv_at hl 0 rfl) ?_
                    refine lv_if_eq (tgt := 250) G0.1 G0.2.1 dX12_clause_196 (by decide) (fun c_673 => ?_) (fun c_673 => ?_)
                    · skip
                      exact absurd c_673 (by decide)
                    · skip
                      have tc_673 := ti_ne c_673
                      refine lv_aload_n G0.1 G0.2.1 dX12_clause_199 rfl (lv_at hl 2 rfl) ?_
                      refine py_get (C := RX12) (T := TX12) (N := 54) (k := 4) (v := .int v_647) G0 hw in_X12_clause_X12 rfl hr_649 (by decide) (by decide +kernel) rfl dX12_clause_200 ?_
                      refine lv_iconst (v := (-1)) G0.1 G0.2.1 dX12_clause_203 (by decide) ?_
                      refine lv_icmp_ne (tgt := 250) G0.1 G0.2.1 dX12_clause_204 (by decide) (fun c_674 => ?_) (fun c_674 => ?_)
                      · skip
                        have tc_674 := ti_ne c_674
                        clear en_641
                        refine lv_aload_n G0.1 G0.2.1 dX12_clause_250 rfl (lv_at hl 2 rfl) ?_
                        refine py_get (C := RX12) (T := TX12) (N := 54) (k := 12) (v := .ref (G.2 u 12)) G0 hw in_X12_clause_X12 rfl hr_649 (by decide) (by decide +kernel) rfl dX12_clause_251 ?_
                        refine lv_iload_n G0.1 G0.2.1 dX12_clause_254 rfl (lv_at hl 1 rfl) ?_
                        refine lv_aload_n G0.1 G0.2.1 dX12_clause_255 rfl (lv_at hl 2 rfl) ?_
                        refine py_get (C := RX12) (T := TX12) (N := 54) (k := 8) (v := .ref (G.2 u 8)) G0 hw in_X12_clause_X12 rfl hr_649 (by decide) (by decide +kernel) rfl dX12_clause_256 ?_
                        refine lv_aload_n G0.1 G0.2.1 dX12_clause_259 rfl (lv_at hl 2 rfl) ?_
                        refine py_get (C := RX12) (T := TX12) (N := 54) (k := 14) (v := .int v_106) G0 hw in_X12_clause_X12 rfl hr_649 (by decide) (by decide +kernel) rfl dX12_clause_260 ?_
                        obtain ⟨g_675, ha_676, hi_677⟩ := wf_arr (n := 5) (lo := 0) (hi := 340) hWF (wt12_8 hG Tu) (by decide) (fun _ => rfl)
                        have rg_678 : vp_in v_106 5 := ti_in (by omega) (by omega)
                        refine py_iald G0 hw ha_676 rg_678 dX12_clause_263 ?_
                        refine lv_topi (fun x_679 ex_679 => ?_)
                        have bx_679 := ti_at hi_677 rg_678 ex_679
                        have zx_679 := arz_ld ha_676 ex_679
                        have hcxx_679 := cdv_ld hr_649 rfl ha_676 ex_679
                        obtain ⟨g_680, ha_681, hi_682⟩ := wf_arr (n := 450) (lo := (-2147483648)) (hi := 2147483647) hWF (wt12_12 hG Tu) (by decide) (fun _ => rfl)
                        have rg_683 : vp_in x_47 450 := ti_in (by omega) (by omega)
                        refine py_iast G0 hw ha_681 rg_683 dX12_clause_264 (fun f_684 H_685 locs h_686 x_687 hw => ?_)
                        have hkw : KP G [47] false f_661 f_684 := KP.refl.upd hWF x_687 (wt12_12 hG Tu) (Or.inl (by decide))
                        have hX9 := hX9.same ((x_687 _ (hWF _ (by rw [wt12_9 hG Tu]; decide)).1 (wf_ne (wt12_9 hG Tu) (wt12_12 hG Tu) (by decide))).2)
                        have hX10 := hX10.same ((x_687 _ (hWF _ (by rw [wt12_10 hG Tu]; decide)).1 (wf_ne (wt12_10 hG Tu) (wt12_12 hG Tu) (by decide))).2)
                        have hX11 := hX11.same ((x_687 _ (hWF _ (by rw [wt12_11 hG Tu]; decide)).1 (wf_ne (wt12_11 hG Tu) (wt12_12 hG Tu) (by decide))).2)
                        have hV10 := (arz_kp ((x_687 _ (hWF _ (by rw [wt12_10 hG Tu]; decide)).1 (wf_ne (wt12_10 hG Tu) (wt12_12 hG Tu) (by decide))).2) _).trans hV10
                        have hV11 := (arz_kp ((x_687 _ (hWF _ (by rw [wt12_11 hG Tu]; decide)).1 (wf_ne (wt12_11 hG Tu) (wt12_12 hG Tu) (by decide))).2) _).trans hV11
                        have hFK := hFK.same ((x_687 _ (hWF _ (by rw [Tu]; decide)).1 (wf_ne Tu (wt12_12 hG Tu) (by decide))).2)
                        have cq_688 := cdv_kp (f := f_661) (f1 := f_684) (m := u) (x_687 _ (hWF _ (by rw [wt12_8 hG Tu]; decide)).1 (wf_ne (wt12_8 hG Tu) (wt12_12 hG Tu) (by decide))).2 (mi_kp (x_687 u (hWF u (by rw [Tu]; decide)).1 (wf_ne Tu (wt12_12 hG Tu) (by decide))).2 14)
                        have kq_689 := clv_kp (f := f_661) (f1 := f_684) (m := u) (x_687 _ (hWF _ (by rw [wt12_9 hG Tu]; decide)).1 (wf_ne (wt12_9 hG Tu) (wt12_12 hG Tu) (by decide))).2 (mi_kp (x_687 u (hWF u (by rw [Tu]; decide)).1 (wf_ne Tu (wt12_12 hG Tu) (by decide))).2 14)
                        have hTR := hTR.same (f2 := f_684) (x_687 _ (hWF _ (by rw [wt12_6 hG Tu]; decide)).1 (wf_ne (wt12_6 hG Tu) (wt12_12 hG Tu) (by decide))).2 (x_687 _ (hWF _ (by rw [wt12_7 hG Tu]; decide)).1 (wf_ne (wt12_7 hG Tu) (wt12_12 hG Tu) (by decide))).2 (x_687 _ (hWF _ (by rw [wt12_8 hG Tu]; decide)).1 (wf_ne (wt12_8 hG Tu) (wt12_12 hG Tu) (by decide))).2 (mi_kp (x_687 u (hWF u (by rw [Tu]; decide)).1 (wf_ne Tu (wt12_12 hG Tu) (by decide))).2 14) (fun q => by have hz := mi_kp (x_687 u (hWF u (by rw [Tu]; decide)).1 (wf_ne Tu (wt12_12 hG Tu) (by decide))).2 4; omega)
                        have hKP := hKP.upd hWF x_687 (wt12_12 hG Tu) (Or.inl (by decide))
                        have hi_690 := wf_inu (k := (x_47 : Int32).toNatClampNeg) (x := x_679) hi_682 (wf_free x_679).1 (wf_free x_679).2
                        have hWF := wf_upd hWF h_686 x_687 (by rw [(wt12_12 hG Tu)]; exact ⟨_, rfl, hi_690⟩)
                        have hr_649 := hr_649.ext x_687 (py_ne_arr hr_649 ha_681)
                        have tq_691 := mi_row hr_649 2 rfl
                        have tq_692 := mi_row hr_649 3 rfl
                        have bv_646 := wf_free v_646
                        have tq_693 := mi_row hr_649 4 rfl
                        have bv_647 := wf_free v_647
                        have tq_694 := mi_row hr_649 5 rfl
                        have bv_648 := wf_free v_648
                        have tq_695 := mi_row hr_649 14 rfl
                        have h_663 := h_663.ext x_687 (wf_ne (wt12_11 hG Tu) (wt12_12 hG Tu) (by decide))
                        have h_164 := h_164.ext x_687 (wf_ne (wt12_10 hG Tu) (wt12_12 hG Tu) (by decide))
                        have ha_676 := ha_676.ext x_687 (wf_ne (wt12_8 hG Tu) (wt12_12 hG Tu) (by decide))
                        have hX12 := hX12.up ha_681 h_686 (by omega) (by omega)
                        have hV12 : arz f_684 (G.2 u 12) (90 * mi f u 14 + clv f G u) = cdv f_684 G u := by rw [show (90 * mi f u 14 + clv f G u) = x_47.toInt by omega, (arz_up ha_681 h_686 (by omega)).1]; omega
                        refine lv_aload_n G0.1 G0.2.1 dX12_clause_265 rfl (lv_at hl 2 rfl) ?_
                        refine py_get (C := RX12) (T := TX12) (N := 54) (k := 9) (v := .ref (G.2 u 9)) G0 hw in_X12_clause_X12 rfl hr_649 (by decide) (by decide +kernel) rfl dX12_clause_266 ?_
                        refine lv_aload_n G0.1 G0.2.1 dX12_clause_269 rfl (lv_at hl 2 rfl) ?_
                        refine py_get (C := RX12) (T := TX12) (N := 54) (k := 14) (v := .int v_106) G0 hw in_X12_clause_X12 rfl hr_649 (by decide) (by decide +kernel) rfl dX12_clause_270 ?_
                        refine lv_dup2_11 G0.1 G0.2.1 dX12_clause_273 rfl rfl ?_
                        obtain ⟨g_696, ha_697, hi_698⟩ := wf_arr (n := 5) (lo := 0) (hi := 90) hWF (wt12_9 hG Tu) (by decide) (fun _ => rfl)
                        have rg_699 : vp_in v_106 5 := ti_in (by omega) (by omega)
                        refine py_iald G0 hw ha_697 rg_699 dX12_clause_274 ?_
                        refine lv_topi (fun x_700 ex_700 => ?_)
                        have bx_700 := ti_at hi_698 rg_699 ex_700
                        have zx_700 := arz_ld ha_697 ex_700
                        have hkxx_700 := clv_ld hr_649 rfl ha_697 ex_700
                        refine lv_iconst (v := 1) G0.1 G0.2.1 dX12_clause_275 (by decide) ?_
                        refine lv_iadd G0.1 G0.2.1 dX12_clause_276 ?_
                        refine lv_topi (fun x_701 ex_701 => ?_)
                        first | have tx_701 := ti_add ex_701 (by omega -splitDisjunctions) (by omega -splitDisjunctions) | skip
                        have rg_702 : vp_in v_106 5 := ti_in (by omega) (by omega)
                        refine py_iast G0 hw ha_697 rg_702 dX12_clause_277 (fun f_703 H_704 locs h_705 x_706 hw => ?_)
                        have hkw : KP G [44] false f_684 f_703 := KP.refl.upd hWF x_706 (wt12_9 hG Tu) (Or.inl (by decide))
                        have hX10 := hX10.same ((x_706 _ (hWF _ (by rw [wt12_10 hG Tu]; decide)).1 (wf_ne (wt12_10 hG Tu) (wt12_9 hG Tu) (by decide))).2)
                        have hX11 := hX11.same ((x_706 _ (hWF _ (by rw [wt12_11 hG Tu]; decide)).1 (wf_ne (wt12_11 hG Tu) (wt12_9 hG Tu) (by decide))).2)
                        have hX12 := hX12.same ((x_706 _ (hWF _ (by rw [wt12_12 hG Tu]; decide)).1 (wf_ne (wt12_12 hG Tu) (wt12_9 hG Tu) (by decide))).2)
                        have hV10 := (arz_kp ((x_706 _ (hWF _ (by rw [wt12_10 hG Tu]; decide)).1 (wf_ne (wt12_10 hG Tu) (wt12_9 hG Tu) (by decide))).2) _).trans hV10
                        have hV11 := (arz_kp ((x_706 _ (hWF _ (by rw [wt12_11 hG Tu]; decide)).1 (wf_ne (wt12_11 hG Tu) (wt12_9 hG Tu) (by decide))).2) _).trans hV11
                        have hV12 := (arz_kp ((x_706 _ (hWF _ (by rw [wt12_12 hG Tu]; decide)).1 (wf_ne (wt12_12 hG Tu) (wt12_9 hG Tu) (by decide))).2) _).trans hV12
                        have hFK := hFK.same ((x_706 _ (hWF _ (by rw [Tu]; decide)).1 (wf_ne Tu (wt12_9 hG Tu) (by decide))).2)
                        have cq_707 := cdv_kp (f := f_684) (f1 := f_703) (m := u) (x_706 _ (hWF _ (by rw [wt12_8 hG Tu]; decide)).1 (wf_ne (wt12_8 hG Tu) (wt12_9 hG Tu) (by decide))).2 (mi_kp (x_706 u (hWF u (by rw [Tu]; decide)).1 (wf_ne Tu (wt12_9 hG Tu) (by decide))).2 14)
                        have hTR := hTR.same (f2 := f_703) (x_706 _ (hWF _ (by rw [wt12_6 hG Tu]; decide)).1 (wf_ne (wt12_6 hG Tu) (wt12_9 hG Tu) (by decide))).2 (x_706 _ (hWF _ (by rw [wt12_7 hG Tu]; decide)).1 (wf_ne (wt12_7 hG Tu) (wt12_9 hG Tu) (by decide))).2 (x_706 _ (hWF _ (by rw [wt12_8 hG Tu]; decide)).1 (wf_ne (wt12_8 hG Tu) (wt12_9 hG Tu) (by decide))).2 (mi_kp (x_706 u (hWF u (by rw [Tu]; decide)).1 (wf_ne Tu (wt12_9 hG Tu) (by decide))).2 14) (fun q => by have hz := mi_kp (x_706 u (hWF u (by rw [Tu]; decide)).1 (wf_ne Tu (wt12_9 hG Tu) (by decide))).2 4; omega)
                        have hKP := hKP.upd hWF x_706 (wt12_9 hG Tu) (Or.inl (by decide))
                        have hi_708 := wf_inu (k := (v_106 : Int32).toNatClampNeg) (x := x_701) hi_698 (by omega) (by omega)
                        have hWF := wf_upd hWF h_705 x_706 (by rw [(wt12_9 hG Tu)]; exact ⟨_, rfl, hi_708⟩)
                        have hr_649 := hr_649.ext x_706 (py_ne_arr hr_649 ha_697)
                        have tq_709 := mi_row hr_649 2 rfl
                        have tq_710 := mi_row hr_649 3 rfl
                        have bv_646 := wf_free v_646
                        have tq_711 := mi_row hr_649 4 rfl
                        have bv_647 := wf_free v_647
                        have tq_712 := mi_row hr_649 5 rfl
                        have bv_648 := wf_free v_648
                        have tq_713 := mi_row hr_649 14 rfl
                        have h_686 := h_686.ext x_706 (wf_ne (wt12_12 hG Tu) (wt12_9 hG Tu) (by decide))
                        have h_663 := h_663.ext x_706 (wf_ne (wt12_11 hG Tu) (wt12_9 hG Tu) (by decide))
                        have h_164 := h_164.ext x_706 (wf_ne (wt12_10 hG Tu) (wt12_9 hG Tu) (by decide))
                        have ha_676 := ha_676.ext x_706 (wf_ne (wt12_8 hG Tu) (wt12_9 hG Tu) (by decide))
                        have hX9 := hX9.up ha_697 h_705 (by omega) (by omega)
                        have hkn : clv f_703 G u = x_701.toInt := by unfold clv; rw [mi_kp (x_706 u (hWF u (by rw [Tu]; decide)).1 (wf_ne Tu (wt12_9 hG Tu) (by decide))).2 14, mi_row hr_649 14 rfl]; exact (arz_up ha_697 h_705 (by omega)).1
                        exact py_vret G0 hr hlk hw ⟨(by first | omega | (intro q; omega)), (by first | omega | (intro q; omega)), (by first | omega | (intro q; omega)), ⟨hTR.tp, hX10, hX11, hX12, hX9, by omega⟩, (fun hw => by first | exact absurd hw (by omega) | exact ⟨co_a hTR hw (by omega) (by omega) (by omega) (by omega), by omega⟩), hWF, hKP, hFK⟩ dX12_clause_278
                      · skip
                        have tc_674 := ti_eq c_674
                        replace en_641 := en_641 (by omega)
                        refine lv_aload_n G0.1 G0.2.1 dX12_clause_207 rfl (lv_at hl 2 rfl) ?_
                        refine py_calli hw (va_runV (As := []) (rest := []) G0 (c_X12_look l E G L_633 f_661 H_662.size u hG hWF Tu (show 0 ≤ mi f_661 u 3 ∧ mi f_661 u 3 ≤ mi f_661 u 2 by omega)) (cwV 0 G0.2.2.2.2 g_X12_clause_X12_look_146 rfl rfl rfl (by decide +kernel) ⟨(Nat.le_of_ble_eq_true rfl), (Nat.le_of_ble_eq_true rfl)⟩) (py_preV hw (C := RX12) (T := TX12) (N := 54) rfl hr_649) rfl rfl hl.1 rfl (lv_room (Nat.le_of_ble_eq_true rfl)) dX12_clause_208 ⟨(Nat.le_of_ble_eq_true rfl), (Nat.le_of_ble_eq_true rfl)⟩) (fun r_718 L_714 f_715 H_716 locs hp_717 hw => ?_)
                        obtain ⟨en_719, en_720, en_721, hWF, kp_722, fk_723⟩ := hp_717
                        have hX9 := hX9.same (kp_f kp_722 (wt12_9 hG Tu) (by decide) (by decide) (fun _ => by decide))
                        have hX10 := hX10.same (kp_f kp_722 (wt12_10 hG Tu) (by decide) (by decide) (fun _ => by decide))
                        have hX11 := hX11.same (kp_f kp_722 (wt12_11 hG Tu) (by decide) (by decide) (fun _ => by decide))
                        have hX12 := hX12.same (kp_f kp_722 (wt12_12 hG Tu) (by decide) (by decide) (fun _ => by decide))
                        have hV10 := (arz_kp (kp_f kp_722 (wt12_10 hG Tu) (by decide) (by decide) (fun _ => by decide)) _).trans hV10
                        have hV11 := (arz_kp (kp_f kp_722 (wt12_11 hG Tu) (by decide) (by decide) (fun _ => by decide)) _).trans hV11
                        have cq_724 := cdv_k hG Tu kp_722 fk_723 (by decide)
                        have kq_725 := clv_k hG Tu kp_722 fk_723 (by decide)
                        have hFK := hFK.trans fk_723 (by decide)
                        have hKP := hKP.trans kp_722 (by decide) (by decide)
                        obtain ⟨v_726, hr_727⟩ := fk_3 hWF Tu fk_723 hr_649
                        have tq_728 := mi_row hr_727 2 rfl
                        have tq_729 := mi_row hr_727 3 rfl
                        have bv_726 := wf_free v_726
                        have tq_730 := mi_row hr_727 4 rfl
                        have bv_647 := wf_free v_647
                        have tq_731 := mi_row hr_727 5 rfl
                        have bv_648 := wf_free v_648
                        have tq_732 := mi_row hr_727 14 rfl
                        have h_663 := kp_at kp_722 hWF (wt12_11 hG Tu) (by decide) (by decide) (by decide) h_663
                        have h_164 := kp_at kp_722 hWF (wt12_10 hG Tu) (by decide) (by decide) (by decide) h_164
                        have hTR := hTR.kp hG Tu kp_722 fk_723 (by decide) (fun q => by omega)
                        have br_718 := wf_free r_718
                        refine lv_bipush (v := 63) G0.1 G0.2.1 dX12_clause_211 (by decide) ?_
                        refine lv_icmp_eq (tgt := 221) G0.1 G0.2.1 dX12_clause_213 (by decide) (fun c_733 => ?_) (fun c_733 => ?_)
                        · skip
                          have tc_733 := ti_eq c_733
                          replace en_720 := en_720 (by omega)
                          refine lv_aload_n G0.1 G0.2.1 dX12_clause_221 rfl (lv_at hl 2 rfl) ?_
                          refine lv_dup G0.1 G0.2.1 dX12_clause_222 rfl ?_
                          refine py_get (C := RX12) (T := TX12) (N := 54) (k := 3) (v := .int v_726) G0 hw in_X12_clause_X12 rfl hr_727 (by decide) (by decide +kernel) rfl dX12_clause_223 ?_
                          refine lv_iconst (v := 1) G0.1 G0.2.1 dX12_clause_226 (by decide) ?_
                          refine lv_iadd G0.1 G0.2.1 dX12_clause_227 ?_
                          refine lv_topi (fun x_734 ex_734 => ?_)
                          first | have tx_734 := ti_add ex_734 (by omega -splitDisjunctions) (by omega -splitDisjunctions) | skip
                          refine py_put (C := RX12) (T := TX12) (N := 54) (k := 3) (v := .int x_734) (fs' := [.int v_100, .ref (G.2 u 1), .int v_101, .int x_734, .int v_647, .int v_648, .ref (G.2 u 6), .ref (G.2 u 7), .ref (G.2 u 8), .ref (G.2 u 9), .ref (G.2 u 10), .ref (G.2 u 11), .ref (G.2 u 12), .int v_105, .int v_106, .ref (G.2 u 15), .ref (G.2 u 16), .ref (G.2 u 17), .ref (G.2 u 18), .int v_107, .int v_108, .ref (G.2 u 21), .ref (G.2 u 22), .ref (G.2 u 23), .int v_109, .int v_110, .ref (G.2 u 26), .ref (G.2 u 27), .ref (G.2 u 28), .int v_111, .long y_112, .int v_113, .int v_114, .int v_115, .int v_116, .ref (G.2 u 35), .ref (G.2 u 36), .ref (G.2 u 37), .ref (G.2 u 38), .ref (G.2 u 39), .ref (G.2 u 40), .ref (G.2 u 41), .ref (G.2 u 42), .int v_117, .ref (G.2 u 44), .ref (G.2 u 45), .ref (G.2 u 46), .ref (G.2 u 47), .long y_118, .ref (G.2 u 49), .ref (G.2 u 50), .int v_119, .long y_120, .int v_121]) (ty0 := tyX12) G0 hw tyX12_ok nmX12 in_X12_clause_X12 rfl hr_727 (by decide) (by decide +kernel) rfl rfl rfl rfl (Nat.le_of_ble_eq_true rfl) rfl dX12_clause_228 (fun f_735 H_736 locs h_737 x_738 hw => ?_)
                          have hX9 := hX9.same ((x_738 _ (hWF _ (by rw [wt12_9 hG Tu]; decide)).1 (wf_ne (wt12_9 hG Tu) Tu (by decide))).2)
                          have hX10 := hX10.same ((x_738 _ (hWF _ (by rw [wt12_10 hG Tu]; decide)).1 (wf_ne (wt12_10 hG Tu) Tu (by decide))).2)
                          have hX11 := hX11.same ((x_738 _ (hWF _ (by rw [wt12_11 hG Tu]; decide)).1 (wf_ne (wt12_11 hG Tu) Tu (by decide))).2)
                          have hX12 := hX12.same ((x_738 _ (hWF _ (by rw [wt12_12 hG Tu]; decide)).1 (wf_ne (wt12_12 hG Tu) Tu (by decide))).2)
                          have hV10 := (arz_kp ((x_738 _ (hWF _ (by rw [wt12_10 hG Tu]; decide)).1 (wf_ne (wt12_10 hG Tu) Tu (by decide))).2) _).trans hV10
                          have hV11 := (arz_kp ((x_738 _ (hWF _ (by rw [wt12_11 hG Tu]; decide)).1 (wf_ne (wt12_11 hG Tu) Tu (by decide))).2) _).trans hV11
                          have hFK := hFK.put hr_727 h_737 3 (by decide) rfl
                          have cq_739 := cdv_own (f1 := f_715) (f2 := f_735) hG hWF Tu x_738 (by have z1 := mi_row hr_727 14 rfl; have z2 := mi_row h_737 14 rfl; omega)
                          have hTR := hTR.own hG hWF Tu x_738 (by have z1 := mi_row hr_727 14 rfl; have z2 := mi_row h_737 14 rfl; omega) (by intro q; have z1 := mi_row hr_727 4 rfl; have z2 := mi_row h_737 4 rfl; omega)
                          have kq_740 := clv_own (f1 := f_715) (f2 := f_735) hG hWF Tu x_738 (by have z1 := mi_row hr_727 14 rfl; have z2 := mi_row h_737 14 rfl; omega)
                          have hKP := hKP.upd hWF x_738 Tu (Or.inl (by decide))
                          have hWF := wf_upd hWF h_737 x_738 (by rw [Tu]; exact ⟨v_100, v_101, x_734, v_647, v_648, v_105, v_106, v_107, v_108, v_109, v_110, v_111, y_112, v_113, v_114, v_115, v_116, v_117, y_118, v_119, y_120, v_121, rfl, ⟨by omega, by omega⟩, ⟨by omega, by omega⟩, ⟨by omega, by omega⟩, ⟨by omega, by omega⟩, ⟨by omega, by omega⟩, ⟨by omega, by omega⟩, ⟨by omega, by omega⟩, ⟨by omega, by omega⟩, ⟨by omega, by omega⟩, ⟨by omega, by omega⟩, ⟨by omega, by omega⟩, ⟨by omega, by omega⟩⟩)
                          have h_663 := h_663.ext x_738 (Ne.symm (py_ne_arr hr_727 h_663))
                          have h_164 := h_164.ext x_738 (Ne.symm (py_ne_arr hr_727 h_164))
                          have tq_741 := mi_row h_737 2 rfl
                          have tq_742 := mi_row h_737 3 rfl
                          have bx_734 := wf_free x_734
                          have tq_743 := mi_row h_737 4 rfl
                          have bv_647 := wf_free v_647
                          have tq_744 := mi_row h_737 5 rfl
                          have bv_648 := wf_free v_648
                          have tq_745 := mi_row h_737 14 rfl
                          refine lv_aload_n G0.1 G0.2.1 dX12_clause_231 rfl (lv_at hl 2 rfl) ?_
                          refine py_get (C := RX12) (T := TX12) (N := 54) (k := 11) (v := .ref (G.2 u 11)) G0 hw in_X12_clause_X12 rfl h_737 (by decide) (by decide +kernel) rfl dX12_clause_232 ?_
                          refine lv_iload_n G0.1 G0.2.1 dX12_clause_235 rfl (lv_at hl 1 rfl) ?_
                          refine lv_aload_n G0.1 G0.2.1 dX12_clause_236 rfl (lv_at hl 2 rfl) ?_
                          refine py_get (C := RX12) (T := TX12) (N := 54) (k := 8) (v := .ref (G.2 u 8)) G0 hw in_X12_clause_X12 rfl h_737 (by decide) (by decide +kernel) rfl dX12_clause_237 ?_
                          refine lv_aload_n G0.1 G0.2.1 dX12_clause_240 rfl (lv_at hl 2 rfl) ?_
                          refine py_get (C := RX12) (T := TX12) (N := 54) (k := 14) (v := .int v_106) G0 hw in_X12_clause_X12 rfl h_737 (by decide) (by decide +kernel) rfl dX12_clause_241 ?_
                          obtain ⟨g_746, ha_747, hi_748⟩ := wf_arr (n := 5) (lo := 0) (hi := 340) hWF (wt12_8 hG Tu) (by decide) (fun _ => rfl)
                          have rg_749 : vp_in v_106 5 := ti_in (by omega) (by omega)
                          refine py_iald G0 hw ha_747 rg_749 dX12_clause_244 ?_
                          refine lv_topi (fun x_750 ex_750 => ?_)
                          have bx_750 := ti_at hi_748 rg_749 ex_750
                          have zx_750 := arz_ld ha_747 ex_750
                          have hcxx_750 := cdv_ld h_737 rfl ha_747 ex_750
                          have rg_751 : vp_in x_47 450 := ti_in (by omega) (by omega)
                          refine py_iast G0 hw h_663 rg_751 dX12_clause_245 (fun f_752 H_753 locs h_754 x_755 hw => ?_)
                          have hkw : KP G [46] false f_735 f_752 := KP.refl.upd hWF x_755 (wt12_11 hG Tu) (Or.inl (by decide))
                          have hX9 := hX9.same ((x_755 _ (hWF _ (by rw [wt12_9 hG Tu]; decide)).1 (wf_ne (wt12_9 hG Tu) (wt12_11 hG Tu) (by decide))).2)
                          have hX10 := hX10.same ((x_755 _ (hWF _ (by rw [wt12_10 hG Tu]; decide)).1 (wf_ne (wt12_10 hG Tu) (wt12_11 hG Tu) (by decide))).2)
                          have hX12 := hX12.same ((x_755 _ (hWF _ (by rw [wt12_12 hG Tu]; decide)).1 (wf_ne (wt12_12 hG Tu) (wt12_11 hG Tu) (by decide))).2)
                          have hV10 := (arz_kp ((x_755 _ (hWF _ (by rw [wt12_10 hG Tu]; decide)).1 (wf_ne (wt12_10 hG Tu) (wt12_11 hG Tu) (by decide))).2) _).trans hV10
                          have hFK := hFK.same ((x_755 _ (hWF _ (by rw [Tu]; decide)).1 (wf_ne Tu (wt12_11 hG Tu) (by decide))).2)
                          have cq_756 := cdv_kp (f := f_735) (f1 := f_752) (m := u) (x_755 _ (hWF _ (by rw [wt12_8 hG Tu]; decide)).1 (wf_ne (wt12_8 hG Tu) (wt12_11 hG Tu) (by decide))).2 (mi_kp (x_755 u (hWF u (by rw [Tu]; decide)).1 (wf_ne Tu (wt12_11 hG Tu) (by decide))).2 14)
                          have kq_757 := clv_kp (f := f_735) (f1 := f_752) (m := u) (x_755 _ (hWF _ (by rw [wt12_9 hG Tu]; decide)).1 (wf_ne (wt12_9 hG Tu) (wt12_11 hG Tu) (by decide))).2 (mi_kp (x_755 u (hWF u (by rw [Tu]; decide)).1 (wf_ne Tu (wt12_11 hG Tu) (by decide))).2 14)
                          have hTR := hTR.same (f2 := f_752) (x_755 _ (hWF _ (by rw [wt12_6 hG Tu]; decide)).1 (wf_ne (wt12_6 hG Tu) (wt12_11 hG Tu) (by decide))).2 (x_755 _ (hWF _ (by rw [wt12_7 hG Tu]; decide)).1 (wf_ne (wt12_7 hG Tu) (wt12_11 hG Tu) (by decide))).2 (x_755 _ (hWF _ (by rw [wt12_8 hG Tu]; decide)).1 (wf_ne (wt12_8 hG Tu) (wt12_11 hG Tu) (by decide))).2 (mi_kp (x_755 u (hWF u (by rw [Tu]; decide)).1 (wf_ne Tu (wt12_11 hG Tu) (by decide))).2 14) (fun q => by have hz := mi_kp (x_755 u (hWF u (by rw [Tu]; decide)).1 (wf_ne Tu (wt12_11 hG Tu) (by decide))).2 4; omega)
                          have hKP := hKP.upd hWF x_755 (wt12_11 hG Tu) (Or.inl (by decide))
                          have hi_758 := wf_inu (k := (x_47 : Int32).toNatClampNeg) (x := x_750) hi_667 (wf_free x_750).1 (wf_free x_750).2
                          have hWF := wf_upd hWF h_754 x_755 (by rw [(wt12_11 hG Tu)]; exact ⟨_, rfl, hi_758⟩)
                          have h_737 := h_737.ext x_755 (py_ne_arr h_737 h_663)
                          have tq_759 := mi_row h_737 2 rfl
                          have tq_760 := mi_row h_737 3 rfl
                          have bx_734 := wf_free x_734
                          have tq_761 := mi_row h_737 4 rfl
                          have bv_647 := wf_free v_647
                          have tq_762 := mi_row h_737 5 rfl
                          have bv_648 := wf_free v_648
                          have tq_763 := mi_row h_737 14 rfl
                          have h_164 := h_164.ext x_755 (wf_ne (wt12_10 hG Tu) (wt12_11 hG Tu) (by decide))
                          have ha_747 := ha_747.ext x_755 (wf_ne (wt12_8 hG Tu) (wt12_11 hG Tu) (by decide))
                          have hX11 := hX11.up h_663 h_754 (by omega) (by omega)
                          have hV11 : arz f_752 (G.2 u 11) (90 * mi f u 14 + clv f G u) = cdv f_752 G u := by rw [show (90 * mi f u 14 + clv f G u) = x_47.toInt by omega, (arz_up h_663 h_754 (by omega)).1]; omega
                          have hTR1 := hTR
                          have hTRw : mi f_752 u 4 = -1 := by have hz := mi_kp (x_755 u (hWF u (by rw [Tu]; decide)).1 (wf_ne Tu (wt12_11 hG Tu) (by decide))).2 4; omega
                          have hcd2 := cdv_rng hG hWF Tu (by have hz := mi_kp (x_755 u (hWF u (by rw [Tu]; decide)).1 (wf_ne Tu (wt12_11 hG Tu) (by decide))).2 14; omega) (by have hz := mi_kp (x_755 u (hWF u (by rw [Tu]; decide)).1 (wf_ne Tu (wt12_11 hG Tu) (by decide))).2 14; omega)
                          have hTR : TR f_752 f_752 G u (80) 0 0 := TR.refl (by have hz := mi_kp (x_755 u (hWF u (by rw [Tu]; decide)).1 (wf_ne Tu (wt12_11 hG Tu) (by decide))).2 14; omega) (by omega)
                          refine lv_aload_n G0.1 G0.2.1 dX12_clause_246 rfl (lv_at hl 2 rfl) ?_
                          refine py_callv hw (va_runV (As := []) (rest := []) G0 (rq_sum l E G hG L_714 f_752 H_753.size u hWF Tu (show mi f_752 u 4 = -1 ∧ 0 ≤ mi f_752 u 5 ∧ mi f_752 u 5 ≤ 6 ∧ 0 ≤ mi f_752 u 3 ∧ mi f_752 u 3 ≤ mi f_752 u 2 ∧ cdv f_752 G u ≤ mi f_752 u 3 by omega)) (cwV 0 G0.2.2.2.2 g_X12_clause_X12_sum_167 rfl rfl rfl (by decide +kernel) ⟨(Nat.le_of_ble_eq_true rfl), (Nat.le_of_ble_eq_true rfl)⟩) (py_preV hw (C := RX12) (T := TX12) (N := 54) rfl h_737) rfl rfl hl.1 rfl (lv_room (Nat.le_of_ble_eq_true rfl)) dX12_clause_247 ⟨(Nat.le_of_ble_eq_true rfl), (Nat.le_of_ble_eq_true rfl)⟩) (fun L_764 f_765 H_766 locs hp_767 hw => ?_)
                          obtain ⟨en_769, en_770, en_771, hWF, kp_772, fk_773⟩ := hp_767
                          have hX9 := hX9.same (kp_f kp_772 (wt12_9 hG Tu) (by decide) (by decide) (fun _ => by decide))
                          have hX10 := hX10.same (kp_f kp_772 (wt12_10 hG Tu) (by decide) (by decide) (fun _ => by decide))
                          have hX11 := hX11.same (kp_f kp_772 (wt12_11 hG Tu) (by decide) (by decide) (fun _ => by decide))
                          have hX12 := hX12.same (kp_f kp_772 (wt12_12 hG Tu) (by decide) (by decide) (fun _ => by decide))
                          have hV10 := (arz_kp (kp_f kp_772 (wt12_10 hG Tu) (by decide) (by decide) (fun _ => by decide)) _).trans hV10
                          have hV11 := (arz_kp (kp_f kp_772 (wt12_11 hG Tu) (by decide) (by decide) (fun _ => by decide)) _).trans hV11
                          have kq_774 := clv_k hG Tu kp_772 fk_773 (by decide)
                          have hFK := hFK.trans fk_773 (by decide)
                          have hKP := hKP.trans kp_772 (by decide) (by decide)
                          obtain ⟨v_775, v_776, v_777, hr_778⟩ := fk_3_4_5 hWF Tu fk_773 h_737
                          have tq_779 := mi_row hr_778 2 rfl
                          have tq_780 := mi_row hr_778 3 rfl
                          have bv_775 := wf_free v_775
                          have tq_781 := mi_row hr_778 4 rfl
                          have bv_776 := wf_free v_776
                          have tq_782 := mi_row hr_778 5 rfl
                          have bv_777 := wf_free v_777
                          have tq_783 := mi_row hr_778 14 rfl
                          have h_754 := kp_at kp_772 hWF (wt12_11 hG Tu) (by decide) (by decide) (by decide) h_754
                          have h_164 := kp_at kp_772 hWF (wt12_10 hG Tu) (by decide) (by decide) (by decide) h_164
                          have hTR : TR f_752 f_765 G u (80) 0 1 := hTR.trans (en_771.lift (b := 0) (by omega) (by omega) (by omega) (by omega)) (fun q => by omega)
                          refine lv_aload_n G0.1 G0.2.1 dX12_clause_250 rfl (lv_at hl 2 rfl) ?_
                          refine py_get (C := RX12) (T := TX12) (N := 54) (k := 12) (v := .ref (G.2 u 12)) G0 hw in_X12_clause_X12 rfl hr_778 (by decide) (by decide +kernel) rfl dX12_clause_251 ?_
                          refine lv_iload_n G0.1 G0.2.1 dX12_clause_254 rfl (lv_at hl 1 rfl) ?_
                          refine lv_aload_n G0.1 G0.2.1 dX12_clause_255 rfl (lv_at hl 2 rfl) ?_
                          refine py_get (C := RX12) (T := TX12) (N := 54) (k := 8) (v := .ref (G.2 u 8)) G0 hw in_X12_clause_X12 rfl hr_778 (by decide) (by decide +kernel) rfl dX12_clause_256 ?_
                          refine lv_aload_n G0.1 G0.2.1 dX12_clause_259 rfl (lv_at hl 2 rfl) ?_
                          refine py_get (C := RX12) (T := TX12) (N := 54) (k := 14) (v := .int v_106) G0 hw in_X12_clause_X12 rfl hr_778 (by decide) (by decide +kernel) rfl dX12_clause_260 ?_
                          obtain ⟨g_784, ha_785, hi_786⟩ := wf_arr (n := 5) (lo := 0) (hi := 340) hWF (wt12_8 hG Tu) (by decide) (fun _ => rfl)
                          have rg_787 : vp_in v_106 5 := ti_in (by omega) (by omega)
                          refine py_iald G0 hw ha_785 rg_787 dX12_clause_263 ?_
                          refine lv_topi (fun x_788 ex_788 => ?_)
                          have bx_788 := ti_at hi_786 rg_787 ex_788
                          have zx_788 := arz_ld ha_785 ex_788
                          have hcxx_788 := cdv_ld hr_778 rfl ha_785 ex_788
                          obtain ⟨g_789, ha_790, hi_791⟩ := wf_arr (n := 450) (lo := (-2147483648)) (hi := 2147483647) hWF (wt12_12 hG Tu) (by decide) (fun _ => rfl)
                          have rg_792 : vp_in x_47 450 := ti_in (by omega) (by omega)
                          refine py_iast G0 hw ha_790 rg_792 dX12_clause_264 (fun f_793 H_794 locs h_795 x_796 hw => ?_)
                          have hkw : KP G [47] false f_765 f_793 := KP.refl.upd hWF x_796 (wt12_12 hG Tu) (Or.inl (by decide))
                          have hX9 := hX9.same ((x_796 _ (hWF _ (by rw [wt12_9 hG Tu]; decide)).1 (wf_ne (wt12_9 hG Tu) (wt12_12 hG Tu) (by decide))).2)
                          have hX10 := hX10.same ((x_796 _ (hWF _ (by rw [wt12_10 hG Tu]; decide)).1 (wf_ne (wt12_10 hG Tu) (wt12_12 hG Tu) (by decide))).2)
                          have hX11 := hX11.same ((x_796 _ (hWF _ (by rw [wt12_11 hG Tu]; decide)).1 (wf_ne (wt12_11 hG Tu) (wt12_12 hG Tu) (by decide))).2)
                          have hV10 := (arz_kp ((x_796 _ (hWF _ (by rw [wt12_10 hG Tu]; decide)).1 (wf_ne (wt12_10 hG Tu) (wt12_12 hG Tu) (by decide))).2) _).trans hV10
                          have hV11 := (arz_kp ((x_796 _ (hWF _ (by rw [wt12_11 hG Tu]; decide)).1 (wf_ne (wt12_11 hG Tu) (wt12_12 hG Tu) (by decide))).2) _).trans hV11
                          have hFK := hFK.same ((x_796 _ (hWF _ (by rw [Tu]; decide)).1 (wf_ne Tu (wt12_12 hG Tu) (by decide))).2)
                          have cq_797 := cdv_kp (f := f_765) (f1 := f_793) (m := u) (x_796 _ (hWF _ (by rw [wt12_8 hG Tu]; decide)).1 (wf_ne (wt12_8 hG Tu) (wt12_12 hG Tu) (by decide))).2 (mi_kp (x_796 u (hWF u (by rw [Tu]; decide)).1 (wf_ne Tu (wt12_12 hG Tu) (by decide))).2 14)
                          have kq_798 := clv_kp (f := f_765) (f1 := f_793) (m := u) (x_796 _ (hWF _ (by rw [wt12_9 hG Tu]; decide)).1 (wf_ne (wt12_9 hG Tu) (wt12_12 hG Tu) (by decide))).2 (mi_kp (x_796 u (hWF u (by rw [Tu]; decide)).1 (wf_ne Tu (wt12_12 hG Tu) (by decide))).2 14)
                          have hTR := hTR.same (f2 := f_793) (x_796 _ (hWF _ (by rw [wt12_6 hG Tu]; decide)).1 (wf_ne (wt12_6 hG Tu) (wt12_12 hG Tu) (by decide))).2 (x_796 _ (hWF _ (by rw [wt12_7 hG Tu]; decide)).1 (wf_ne (wt12_7 hG Tu) (wt12_12 hG Tu) (by decide))).2 (x_796 _ (hWF _ (by rw [wt12_8 hG Tu]; decide)).1 (wf_ne (wt12_8 hG Tu) (wt12_12 hG Tu) (by decide))).2 (mi_kp (x_796 u (hWF u (by rw [Tu]; decide)).1 (wf_ne Tu (wt12_12 hG Tu) (by decide))).2 14) (fun q => by have hz := mi_kp (x_796 u (hWF u (by rw [Tu]; decide)).1 (wf_ne Tu (wt12_12 hG Tu) (by decide))).2 4; omega)
                          have hKP := hKP.upd hWF x_796 (wt12_12 hG Tu) (Or.inl (by decide))
                          have hi_799 := wf_inu (k := (x_47 : Int32).toNatClampNeg) (x := x_788) hi_791 (wf_free x_788).1 (wf_free x_788).2
                          have hWF := wf_upd hWF h_795 x_796 (by rw [(wt12_12 hG Tu)]; exact ⟨_, rfl, hi_799⟩)
                          have hr_778 := hr_778.ext x_796 (py_ne_arr hr_778 ha_790)
                          have tq_800 := mi_row hr_778 2 rfl
                          have tq_801 := mi_row hr_778 3 rfl
                          have bv_775 := wf_free v_775
                          have tq_802 := mi_row hr_778 4 rfl
                          have bv_776 := wf_free v_776
                          have tq_803 := mi_row hr_778 5 rfl
                          have bv_777 := wf_free v_777
                          have tq_804 := mi_row hr_778 14 rfl
                          have h_754 := h_754.ext x_796 (wf_ne (wt12_11 hG Tu) (wt12_12 hG Tu) (by decide))
                          have h_164 := h_164.ext x_796 (wf_ne (wt12_10 hG Tu) (wt12_12 hG Tu) (by decide))
                          have ha_785 := ha_785.ext x_796 (wf_ne (wt12_8 hG Tu) (wt12_12 hG Tu) (by decide))
                          have hX12 := hX12.up ha_790 h_795 (by omega) (by omega)
                          have hV12 : arz f_793 (G.2 u 12) (90 * mi f u 14 + clv f G u) = cdv f_793 G u := by rw [show (90 * mi f u 14 + clv f G u) = x_47.toInt by omega, (arz_up ha_790 h_795 (by omega)).1]; omega
                          refine lv_aload_n G0.1 G0.2.1 dX12_clause_265 rfl (lv_at hl 2 rfl) ?_
                          refine py_get (C := RX12) (T := TX12) (N := 54) (k := 9) (v := .ref (G.2 u 9)) G0 hw in_X12_clause_X12 rfl hr_778 (by decide) (by decide +kernel) rfl dX12_clause_266 ?_
                          refine lv_aload_n G0.1 G0.2.1 dX12_clause_269 rfl (lv_at hl 2 rfl) ?_
                          refine py_get (C := RX12) (T := TX12) (N := 54) (k := 14) (v := .int v_106) G0 hw in_X12_clause_X12 rfl hr_778 (by decide) (by decide +kernel) rfl dX12_clause_270 ?_
                          refine lv_dup2_11 G0.1 G0.2.1 dX12_clause_273 rfl rfl ?_
                          obtain ⟨g_805, ha_806, hi_807⟩ := wf_arr (n := 5) (lo := 0) (hi := 90) hWF (wt12_9 hG Tu) (by decide) (fun _ => rfl)
                          have rg_808 : vp_in v_106 5 := ti_in (by omega) (by omega)
                          refine py_iald G0 hw ha_806 rg_808 dX12_clause_274 ?_
                          refine lv_topi (fun x_809 ex_809 => ?_)
                          have bx_809 := ti_at hi_807 rg_808 ex_809
                          have zx_809 := arz_ld ha_806 ex_809
                          have hkxx_809 := clv_ld hr_778 rfl ha_806 ex_809
                          refine lv_iconst (v := 1) G0.1 G0.2.1 dX12_clause_275 (by decide) ?_
                          refine lv_iadd G0.1 G0.2.1 dX12_clause_276 ?_
                          refine lv_topi (fun x_810 ex_810 => ?_)
                          first | have tx_810 := ti_add ex_810 (by omega -splitDisjunctions) (by omega -splitDisjunctions) | skip
                          have rg_811 : vp_in v_106 5 := ti_in (by omega) (by omega)
                          refine py_iast G0 hw ha_806 rg_811 dX12_clause_277 (fun f_812 H_813 locs h_814 x_815 hw => ?_)
                          have hkw : KP G [44] false f_793 f_812 := KP.refl.upd hWF x_815 (wt12_9 hG Tu) (Or.inl (by decide))
                          have hX10 := hX10.same ((x_815 _ (hWF _ (by rw [wt12_10 hG Tu]; decide)).1 (wf_ne (wt12_10 hG Tu) (wt12_9 hG Tu) (by decide))).2)
                          have hX11 := hX11.same ((x_815 _ (hWF _ (by rw [wt12_11 hG Tu]; decide)).1 (wf_ne (wt12_11 hG Tu) (wt12_9 hG Tu) (by decide))).2)
                          have hX12 := hX12.same ((x_815 _ (hWF _ (by rw [wt12_12 hG Tu]; decide)).1 (wf_ne (wt12_12 hG Tu) (wt12_9 hG Tu) (by decide))).2)
                          have hV10 := (arz_kp ((x_815 _ (hWF _ (by rw [wt12_10 hG Tu]; decide)).1 (wf_ne (wt12_10 hG Tu) (wt12_9 hG Tu) (by decide))).2) _).trans hV10
                          have hV11 := (arz_kp ((x_815 _ (hWF _ (by rw [wt12_11 hG Tu]; decide)).1 (wf_ne (wt12_11 hG Tu) (wt12_9 hG Tu) (by decide))).2) _).trans hV11
                          have hV12 := (arz_kp ((x_815 _ (hWF _ (by rw [wt12_12 hG Tu]; decide)).1 (wf_ne (wt12_12 hG Tu) (wt12_9 hG Tu) (by decide))).2) _).trans hV12
                          have hFK := hFK.same ((x_815 _ (hWF _ (by rw [Tu]; decide)).1 (wf_ne Tu (wt12_9 hG Tu) (by decide))).2)
                          have cq_816 := cdv_kp (f := f_793) (f1 := f_812) (m := u) (x_815 _ (hWF _ (by rw [wt12_8 hG Tu]; decide)).1 (wf_ne (wt12_8 hG Tu) (wt12_9 hG Tu) (by decide))).2 (mi_kp (x_815 u (hWF u (by rw [Tu]; decide)).1 (wf_ne Tu (wt12_9 hG Tu) (by decide))).2 14)
                          have hTR := hTR.same (f2 := f_812) (x_815 _ (hWF _ (by rw [wt12_6 hG Tu]; decide)).1 (wf_ne (wt12_6 hG Tu) (wt12_9 hG Tu) (by decide))).2 (x_815 _ (hWF _ (by rw [wt12_7 hG Tu]; decide)).1 (wf_ne (wt12_7 hG Tu) (wt12_9 hG Tu) (by decide))).2 (x_815 _ (hWF _ (by rw [wt12_8 hG Tu]; decide)).1 (wf_ne (wt12_8 hG Tu) (wt12_9 hG Tu) (by decide))).2 (mi_kp (x_815 u (hWF u (by rw [Tu]; decide)).1 (wf_ne Tu (wt12_9 hG Tu) (by decide))).2 14) (fun q => by have hz := mi_kp (x_815 u (hWF u (by rw [Tu]; decide)).1 (wf_ne Tu (wt12_9 hG Tu) (by decide))).2 4; omega)
                          have hKP := hKP.upd hWF x_815 (wt12_9 hG Tu) (Or.inl (by decide))
                          have hi_817 := wf_inu (k := (v_106 : Int32).toNatClampNeg) (x := x_810) hi_807 (by omega) (by omega)
                          have hWF := wf_upd hWF h_814 x_815 (by rw [(wt12_9 hG Tu)]; exact ⟨_, rfl, hi_817⟩)
                          have hr_778 := hr_778.ext x_815 (py_ne_arr hr_778 ha_806)
                          have tq_818 := mi_row hr_778 2 rfl
                          have tq_819 := mi_row hr_778 3 rfl
                          have bv_775 := wf_free v_775
                          have tq_820 := mi_row hr_778 4 rfl
                          have bv_776 := wf_free v_776
                          have tq_821 := mi_row hr_778 5 rfl
                          have bv_777 := wf_free v_777
                          have tq_822 := mi_row hr_778 14 rfl
                          have h_795 := h_795.ext x_815 (wf_ne (wt12_12 hG Tu) (wt12_9 hG Tu) (by decide))
                          have h_754 := h_754.ext x_815 (wf_ne (wt12_11 hG Tu) (wt12_9 hG Tu) (by decide))
                          have h_164 := h_164.ext x_815 (wf_ne (wt12_10 hG Tu) (wt12_9 hG Tu) (by decide))
                          have ha_785 := ha_785.ext x_815 (wf_ne (wt12_8 hG Tu) (wt12_9 hG Tu) (by decide))
                          have hX9 := hX9.up ha_806 h_814 (by omega) (by omega)
                          have hkn : clv f_812 G u = x_810.toInt := by unfold clv; rw [mi_kp (x_815 u (hWF u (by rw [Tu]; decide)).1 (wf_ne Tu (wt12_9 hG Tu) (by decide))).2 14, mi_row hr_778 14 rfl]; exact (arz_up ha_806 h_814 (by omega)).1
                          exact py_vret G0 hr hlk hw ⟨(by first | omega | (intro q; omega)), (by first | omega | (intro q; omega)), (by first | omega | (intro q; omega)), ⟨(hTR1.tp.trans hTR.tp), hX10, hX11, hX12, hX9, by omega⟩, (fun hw => by first | exact absurd hw (by omega) | exact ⟨co_b hTR1 hTR hTRw hw (by omega) (by omega) (by omega) (by omega), by omega⟩), hWF, hKP, hFK⟩ dX12_clause_278
                        · skip
                          have tc_733 := ti_ne c_733
                          refine lv_aload_n G0.1 G0.2.1 dX12_clause_216 rfl (lv_at hl 2 rfl) ?_
                          refine py_callv hw (va_runV (As := []) (rest := []) G0 (c_X12_bad l E G L_714 f_715 H_716.size u hG hWF Tu (show 0 ≤ mi f_715 u 3 by omega)) (cwV 0 G0.2.2.2.2 g_X12_clause_X12_bad_143 rfl rfl rfl (by decide +kernel) ⟨(Nat.le_of_ble_eq_true rfl), (Nat.le_of_ble_eq_true rfl)⟩) (py_preV hw (C := RX12) (T := TX12) (N := 54) rfl hr_727) rfl rfl hl.1 rfl (lv_room (Nat.le_of_ble_eq_true rfl)) dX12_clause_217 ⟨(Nat.le_of_ble_eq_true rfl), (Nat.le_of_ble_eq_true rfl)⟩) (fun L_823 f_824 H_825 locs hp_826 hw => ?_)
                          obtain ⟨en_828, en_829, hWF, kp_830, fk_831⟩ := hp_826
                          have hX9 := hX9.same (kp_f kp_830 (wt12_9 hG Tu) (by decide) (by decide) (fun _ => by decide))
                          have hX10 := hX10.same (kp_f kp_830 (wt12_10 hG Tu) (by decide) (by decide) (fun _ => by decide))
                          have hX11 := hX11.same (kp_f kp_830 (wt12_11 hG Tu) (by decide) (by decide) (fun _ => by decide))
                          have hX12 := hX12.same (kp_f kp_830 (wt12_12 hG Tu) (by decide) (by decide) (fun _ => by decide))
                          have hV10 := (arz_kp (kp_f kp_830 (wt12_10 hG Tu) (by decide) (by decide) (fun _ => by decide)) _).trans hV10
                          have hV11 := (arz_kp (kp_f kp_830 (wt12_11 hG Tu) (by decide) (by decide) (fun _ => by decide)) _).trans hV11
                          have cq_832 := cdv_k hG Tu kp_830 fk_831 (by decide)
                          have kq_833 := clv_k hG Tu kp_830 fk_831 (by decide)
                          have hFK := hFK.trans fk_831 (by decide)
                          have hKP := hKP.trans kp_830 (by decide) (by decide)
                          obtain ⟨v_834, hr_835⟩ := fk_4 hWF Tu fk_831 hr_727
                          have tq_836 := mi_row hr_835 2 rfl
                          have tq_837 := mi_row hr_835 3 rfl
                          have bv_726 := wf_free v_726
                          have tq_838 := mi_row hr_835 4 rfl
                          have bv_834 := wf_free v_834
                          have tq_839 := mi_row hr_835 5 rfl
                          have bv_648 := wf_free v_648
                          have tq_840 := mi_row hr_835 14 rfl
                          have h_663 := kp_at kp_830 hWF (wt12_11 hG Tu) (by decide) (by decide) (by decide) h_663
                          have h_164 := kp_at kp_830 hWF (wt12_10 hG Tu) (by decide) (by decide) (by decide) h_164
                          have hTR := hTR.kp hG Tu kp_830 fk_831 (by decide) (fun q => by omega)
                          exact py_vret G0 hr hlk hw ⟨(by first | omega | (intro q; omega)), (by first | omega | (intro q; omega)), (by first | omega | (intro q; omega)), ⟨hTR.tp, hX10, hX11, hX12, hX9, by omega⟩, (fun hw => by first | exact absurd hw (by omega) | exact ⟨co_a hTR hw (by omega) (by omega) (by omega) (by omega), by omega⟩), hWF, hKP, hFK⟩ dX12_clause_220
            · skip
              exact absurd c_421 (by decide)
          · skip
            have tc_420 := ti_eq c_420
            replace en_407 := en_407 (by omega)
            refine lv_iconst (v := 1) G0.1 G0.2.1 dX12_clause_122 (by decide) ?_
            refine lv_goto (tgt := 127) G0.1 G0.2.1 dX12_clause_123 (by decide) ?_
            refine lv_istore_n (lv' := [(2, .int 1), (1, .int x_47), (0, .ref u)]) G0.1 G0.2.1 dX12_clause_127 rfl hl (by decide) rfl (fun ls hl => ?_)
            refine lv_iload_n G0.1 G0.2.1 dX12_clause_128 rfl (lv_at hl 0 rfl) ?_
            refine lv_if_eq (tgt := 139) G0.1 G0.2.1 dX12_clause_129 (by decide) (fun c_841 => ?_) (fun c_841 => ?_)
            · skip
              exact absurd c_841 (by decide)
            · skip
              have tc_841 := ti_ne c_841
              refine lv_aload_n G0.1 G0.2.1 dX12_clause_132 rfl (lv_at hl 2 rfl) ?_
              refine py_callv hw (va_runV (As := []) (rest := []) G0 (rq_condition l E G hG L_401 f_402 H_403.size u hWF Tu (show mi f_402 u 4 = -1 ∧ 0 ≤ mi f_402 u 5 ∧ mi f_402 u 5 ≤ 6 ∧ 0 ≤ mi f_402 u 3 ∧ mi f_402 u 3 ≤ mi f_402 u 2 ∧ cdv f_402 G u ≤ mi f_402 u 3 by omega)) (cwV 0 G0.2.2.2.2 g_X12_clause_X12_condition_186 rfl rfl rfl (by decide +kernel) ⟨(Nat.le_of_ble_eq_true rfl), (Nat.le_of_ble_eq_true rfl)⟩) (py_preV hw (C := RX12) (T := TX12) (N := 54) rfl hr_414) rfl rfl hl.1 rfl (lv_room (Nat.le_of_ble_eq_true rfl)) dX12_clause_133 ⟨(Nat.le_of_ble_eq_true rfl), (Nat.le_of_ble_eq_true rfl)⟩) (fun L_842 f_843 H_844 locs hp_845 hw => ?_)
              obtain ⟨en_847, en_848, en_849, hWF, kp_850, fk_851⟩ := hp_845
              have hX9 := hX9.same (kp_f kp_850 (wt12_9 hG Tu) (by decide) (by decide) (fun _ => by decide))
              have hX10 := hX10.same (kp_f kp_850 (wt12_10 hG Tu) (by decide) (by decide) (fun _ => by decide))
              have hX11 := hX11.same (kp_f kp_850 (wt12_11 hG Tu) (by decide) (by decide) (fun _ => by decide))
              have hX12 := hX12.same (kp_f kp_850 (wt12_12 hG Tu) (by decide) (by decide) (fun _ => by decide))
              have hV10 := (arz_kp (kp_f kp_850 (wt12_10 hG Tu) (by decide) (by decide) (fun _ => by decide)) _).trans hV10
              have kq_852 := clv_k hG Tu kp_850 fk_851 (by decide)
              have hFK := hFK.trans fk_851 (by decide)
              have hKP := hKP.trans kp_850 (by decide) (by decide)
              obtain ⟨v_853, v_854, v_855, hr_856⟩ := fk_3_4_5 hWF Tu fk_851 hr_414
              have tq_857 := mi_row hr_856 2 rfl
              have tq_858 := mi_row hr_856 3 rfl
              have bv_853 := wf_free v_853
              have tq_859 := mi_row hr_856 4 rfl
              have bv_854 := wf_free v_854
              have tq_860 := mi_row hr_856 5 rfl
              have bv_855 := wf_free v_855
              have tq_861 := mi_row hr_856 14 rfl
              have h_164 := kp_at kp_850 hWF (wt12_10 hG Tu) (by decide) (by decide) (by decide) h_164
              have hTR : TR f f_843 G u (80) 0 1 := hTR.trans (en_849.lift (b := 0) (by omega) (by omega) (by omega) (by omega)) (fun q => by omega)
              refine lv_goto (tgt := 183) G0.1 G0.2.1 dX12_clause_136 (by decide) ?_
              refine lv_aload_n G0.1 G0.2.1 dX12_clause_183 rfl (lv_at hl 2 rfl) ?_
              refine py_get (C := RX12) (T := TX12) (N := 54) (k := 11) (v := .ref (G.2 u 11)) G0 hw in_X12_clause_X12 rfl hr_856 (by decide) (by decide +kernel) rfl dX12_clause_184 ?_
              refine lv_iload_n G0.1 G0.2.1 dX12_clause_187 rfl (lv_at hl 1 rfl) ?_
              refine lv_aload_n G0.1 G0.2.1 dX12_clause_188 rfl (lv_at hl 2 rfl) ?_
              refine py_get (C := RX12) (T := TX12) (N := 54) (k := 10) (v := .ref (G.2 u 10)) G0 hw in_X12_clause_X12 rfl hr_856 (by decide) (by decide +kernel) rfl dX12_clause_189 ?_
              refine lv_iload_n G0.1 G0.2.1 dX12_clause_192 rfl (lv_at hl 1 rfl) ?_
              have rg_862 : vp_in x_47 450 := ti_in (by omega) (by omega)
              refine py_iald G0 hw h_164 rg_862 dX12_clause_193 ?_
              refine lv_topi (fun x_863 ex_863 => ?_)
              have bx_863 := wf_free x_863
              have zx_863 := arz_ld h_164 ex_863
              obtain ⟨g_864, ha_865, hi_866⟩ := wf_arr (n := 450) (lo := (-2147483648)) (hi := 2147483647) hWF (wt12_11 hG Tu) (by decide) (fun _ => rfl)
              have rg_867 : vp_in x_47 450 := ti_in (by omega) (by omega)
              refine py_iast G0 hw ha_865 rg_867 dX12_clause_194 (fun f_868 H_869 locs h_870 x_871 hw => ?_)
              have hkw : KP G [46] false f_843 f_868 := KP.refl.upd hWF x_871 (wt12_11 hG Tu) (Or.inl (by decide))
              have hX9 := hX9.same ((x_871 _ (hWF _ (by rw [wt12_9 hG Tu]; decide)).1 (wf_ne (wt12_9 hG Tu) (wt12_11 hG Tu) (by decide))).2)
              have hX10 := hX10.same ((x_871 _ (hWF _ (by rw [wt12_10 hG Tu]; decide)).1 (wf_ne (wt12_10 hG Tu) (wt12_11 hG Tu) (by decide))).2)
              have hX12 := hX12.same ((x_871 _ (hWF _ (by rw [wt12_12 hG Tu]; decide)).1 (wf_ne (wt12_12 hG Tu) (wt12_11 hG Tu) (by decide))).2)
              have hV10 := (arz_kp ((x_871 _ (hWF _ (by rw [wt12_10 hG Tu]; decide)).1 (wf_ne (wt12_10 hG Tu) (wt12_11 hG Tu) (by decide))).2) _).trans hV10
              have hFK := hFK.same ((x_871 _ (hWF _ (by rw [Tu]; decide)).1 (wf_ne Tu (wt12_11 hG Tu) (by decide))).2)
              have cq_872 := cdv_kp (f := f_843) (f1 := f_868) (m := u) (x_871 _ (hWF _ (by rw [wt12_8 hG Tu]; decide)).1 (wf_ne (wt12_8 hG Tu) (wt12_11 hG Tu) (by decide))).2 (mi_kp (x_871 u (hWF u (by rw [Tu]; decide)).1 (wf_ne Tu (wt12_11 hG Tu) (by decide))).2 14)
              have kq_873 := clv_kp (f := f_843) (f1 := f_868) (m := u) (x_871 _ (hWF _ (by rw [wt12_9 hG Tu]; decide)).1 (wf_ne (wt12_9 hG Tu) (wt12_11 hG Tu) (by decide))).2 (mi_kp (x_871 u (hWF u (by rw [Tu]; decide)).1 (wf_ne Tu (wt12_11 hG Tu) (by decide))).2 14)
              have hTR := hTR.same (f2 := f_868) (x_871 _ (hWF _ (by rw [wt12_6 hG Tu]; decide)).1 (wf_ne (wt12_6 hG Tu) (wt12_11 hG Tu) (by decide))).2 (x_871 _ (hWF _ (by rw [wt12_7 hG Tu]; decide)).1 (wf_ne (wt12_7 hG Tu) (wt12_11 hG Tu) (by decide))).2 (x_871 _ (hWF _ (by rw [wt12_8 hG Tu]; decide)).1 (wf_ne (wt12_8 hG Tu) (wt12_11 hG Tu) (by decide))).2 (mi_kp (x_871 u (hWF u (by rw [Tu]; decide)).1 (wf_ne Tu (wt12_11 hG Tu) (by decide))).2 14) (fun q => by have hz := mi_kp (x_871 u (hWF u (by rw [Tu]; decide)).1 (wf_ne Tu (wt12_11 hG Tu) (by decide))).2 4; omega)
              have hKP := hKP.upd hWF x_871 (wt12_11 hG Tu) (Or.inl (by decide))
              have hi_874 := wf_inu (k := (x_47 : Int32).toNatClampNeg) (x := x_863) hi_866 (wf_free x_863).1 (wf_free x_863).2
              have hWF := wf_upd hWF h_870 x_871 (by rw [(wt12_11 hG Tu)]; exact ⟨_, rfl, hi_874⟩)
              have hr_856 := hr_856.ext x_871 (py_ne_arr hr_856 ha_865)
              have tq_875 := mi_row hr_856 2 rfl
              have tq_876 := mi_row hr_856 3 rfl
              have bv_853 := wf_free v_853
              have tq_877 := mi_row hr_856 4 rfl
              have bv_854 := wf_free v_854
              have tq_878 := mi_row hr_856 5 rfl
              have bv_855 := wf_free v_855
              have tq_879 := mi_row hr_856 14 rfl
              have h_164 := h_164.ext x_871 (wf_ne (wt12_10 hG Tu) (wt12_11 hG Tu) (by decide))
              have hX11 := hX11.up ha_865 h_870 (by omega) (by omega)
              have hV11 : arz f_868 (G.2 u 11) (90 * mi f u 14 + clv f G u) = cdv f G u := by rw [show (90 * mi f u 14 + clv f G u) = x_47.toInt by omega, (arz_up ha_865 h_870 (by omega)).1]; omega
              refine lv_iload_n G0.1 G0.2.1 dX12_clause_195 rfl (lv_at hl 0 rfl) ?_
              refine lv_if_eq (tgt := 250) G0.1 G0.2.1 dX12_clause_196 (by decide) (fun c_880 => ?_) (fun c_880 => ?_)
              · skip
                exact absurd c_880 (by decide)
              · skip
                have tc_880 := ti_ne c_880
                refine lv_aload_n G0.1 G0.2.1 dX12_clause_199 rfl (lv_at hl 2 rfl) ?_
                refine py_get (C := RX12) (T := TX12) (N := 54) (k := 4) (v := .int v_854) G0 hw in_X12_clause_X12 rfl hr_856 (by decide) (by decide +kernel) rfl dX12_clause_200 ?_
                refine lv_iconst (v := (-1)) G0.1 G0.2.1 dX12_clause_203 (by decide) ?_
                refine lv_icmp_ne (tgt := 250) G0.1 G0.2.1 dX12_clause_204 (by decide) (fun c_881 => ?_) (fun c_881 => ?_)
                · skip
                  have tc_881 := ti_ne c_881
                  clear en_848
                  refine lv_aload_n G0.1 G0.2.1 dX12_clause_250 rfl (lv_at hl 2 rfl) ?_
                  refine py_get (C := RX12) (T := TX12) (N := 54) (k := 12) (v := .ref (G.2 u 12)) G0 hw in_X12_clause_X12 rfl hr_856 (by decide) (by decide +kernel) rfl dX12_clause_251 ?_
                  refine lv_iload_n G0.1 G0.2.1 dX12_clause_254 rfl (lv_at hl 1 rfl) ?_
                  refine lv_aload_n G0.1 G0.2.1 dX12_clause_255 rfl (lv_at hl 2 rfl) ?_
                  refine py_get (C := RX12) (T := TX12) (N := 54) (k := 8) (v := .ref (G.2 u 8)) G0 hw in_X12_clause_X12 rfl hr_856 (by decide) (by decide +kernel) rfl dX12_clause_256 ?_
                  refine lv_aload_n G0.1 G0.2.1 dX12_clause_259 rfl (lv_at hl 2 rfl) ?_
                  refine py_get (C := RX12) (T := TX12) (N := 54) (k := 14) (v := .int v_106) G0 hw in_X12_clause_X12 rfl hr_856 (by decide) (by decide +kernel) rfl dX12_clause_260 ?_
                  obtain ⟨g_882, ha_883, hi_884⟩ := wf_arr (n := 5) (lo := 0) (hi := 340) hWF (wt12_8 hG Tu) (by decide) (fun _ => rfl)
                  have rg_885 : vp_in v_106 5 := ti_in (by omega) (by omega)
                  refine py_iald G0 hw ha_883 rg_885 dX12_clause_263 ?_
                  refine lv_topi (fun x_886 ex_886 => ?_)
                  have bx_886 := ti_at hi_884 rg_885 ex_886
                  have zx_886 := arz_ld ha_883 ex_886
                  have hcxx_886 := cdv_ld hr_856 rfl ha_883 ex_886
                  obtain ⟨g_887, ha_888, hi_889⟩ := wf_arr (n := 450) (lo := (-2147483648)) (hi := 2147483647) hWF (wt12_12 hG Tu) (by decide) (fun _ => rfl)
                  have rg_890 : vp_in x_47 450 := ti_in (by omega) (by omega)
                  refine py_iast G0 hw ha_888 rg_890 dX12_clause_264 (fun f_891 H_892 locs h_893 x_894 hw => ?_)
                  have hkw : KP G [47] false f_868 f_891 := KP.refl.upd hWF x_894 (wt12_12 hG Tu) (Or.inl (by decide))
                  have hX9 := hX9.same ((x_894 _ (hWF _ (by rw [wt12_9 hG Tu]; decide)).1 (wf_ne (wt12_9 hG Tu) (wt12_12 hG Tu) (by decide))).2)
                  have hX10 := hX10.same ((x_894 _ (hWF _ (by rw [wt12_10 hG Tu]; decide)).1 (wf_ne (wt12_10 hG Tu) (wt12_12 hG Tu) (by decide))).2)
                  have hX11 := hX11.same ((x_894 _ (hWF _ (by rw [wt12_11 hG Tu]; decide)).1 (wf_ne (wt12_11 hG Tu) (wt12_12 hG Tu) (by decide))).2)
                  have hV10 := (arz_kp ((x_894 _ (hWF _ (by rw [wt12_10 hG Tu]; decide)).1 (wf_ne (wt12_10 hG Tu) (wt12_12 hG Tu) (by decide))).2) _).trans hV10
                  have hV11 := (arz_kp ((x_894 _ (hWF _ (by rw [wt12_11 hG Tu]; decide)).1 (wf_ne (wt12_11 hG Tu) (wt12_12 hG Tu) (by decide))).2) _).trans hV11
                  have hFK := hFK.same ((x_894 _ (hWF _ (by rw [Tu]; decide)).1 (wf_ne Tu (wt12_12 hG Tu) (by decide))).2)
                  have cq_895 := cdv_kp (f := f_868) (f1 := f_891) (m := u) (x_894 _ (hWF _ (by rw [wt12_8 hG Tu]; decide)).1 (wf_ne (wt12_8 hG Tu) (wt12_12 hG Tu) (by decide))).2 (mi_kp (x_894 u (hWF u (by rw [Tu]; decide)).1 (wf_ne Tu (wt12_12 hG Tu) (by decide))).2 14)
                  have kq_896 := clv_kp (f := f_868) (f1 := f_891) (m := u) (x_894 _ (hWF _ (by rw [wt12_9 hG Tu]; decide)).1 (wf_ne (wt12_9 hG Tu) (wt12_12 hG Tu) (by decide))).2 (mi_kp (x_894 u (hWF u (by rw [Tu]; decide)).1 (wf_ne Tu (wt12_12 hG Tu) (by decide))).2 14)
                  have hTR := hTR.same (f2 := f_891) (x_894 _ (hWF _ (by rw [wt12_6 hG Tu]; decide)).1 (wf_ne (wt12_6 hG Tu) (wt12_12 hG Tu) (by decide))).2 (x_894 _ (hWF _ (by rw [wt12_7 hG Tu]; decide)).1 (wf_ne (wt12_7 hG Tu) (wt12_12 hG Tu) (by decide))).2 (x_894 _ (hWF _ (by rw [wt12_8 hG Tu]; decide)).1 (wf_ne (wt12_8 hG Tu) (wt12_12 hG Tu) (by decide))).2 (mi_kp (x_894 u (hWF u (by rw [Tu]; decide)).1 (wf_ne Tu (wt12_12 hG Tu) (by decide))).2 14) (fun q => by have hz := mi_kp (x_894 u (hWF u (by rw [Tu]; decide)).1 (wf_ne Tu (wt12_12 hG Tu) (by decide))).2 4; omega)
                  have hKP := hKP.upd hWF x_894 (wt12_12 hG Tu) (Or.inl (by decide))
                  have hi_897 := wf_inu (k := (x_47 : Int32).toNatClampNeg) (x := x_886) hi_889 (wf_free x_886).1 (wf_free x_886).2
                  have hWF := wf_upd hWF h_893 x_894 (by rw [(wt12_12 hG Tu)]; exact ⟨_, rfl, hi_897⟩)
                  have hr_856 := hr_856.ext x_894 (py_ne_arr hr_856 ha_888)
                  have tq_898 := mi_row hr_856 2 rfl
                  have tq_899 := mi_row hr_856 3 rfl
                  have bv_853 := wf_free v_853
                  have tq_900 := mi_row hr_856 4 rfl
                  have bv_854 := wf_free v_854
                  have tq_901 := mi_row hr_856 5 rfl
                  have bv_855 := wf_free v_855
                  have tq_902 := mi_row hr_856 14 rfl
                  have h_870 := h_870.ext x_894 (wf_ne (wt12_11 hG Tu) (wt12_12 hG Tu) (by decide))
                  have h_164 := h_164.ext x_894 (wf_ne (wt12_10 hG Tu) (wt12_12 hG Tu) (by decide))
                  have ha_883 := ha_883.ext x_894 (wf_ne (wt12_8 hG Tu) (wt12_12 hG Tu) (by decide))
                  have hX12 := hX12.up ha_888 h_893 (by omega) (by omega)
                  have hV12 : arz f_891 (G.2 u 12) (90 * mi f u 14 + clv f G u) = cdv f_891 G u := by rw [show (90 * mi f u 14 + clv f G u) = x_47.toInt by omega, (arz_up ha_888 h_893 (by omega)).1]; omega
                  refine lv_aload_n G0.1 G0.2.1 dX12_clause_265 rfl (lv_at hl 2 rfl) ?_
                  refine py_get (C := RX12) (T := TX12) (N := 54) (k := 9) (v := .ref (G.2 u 9)) G0 hw in_X12_clause_X12 rfl hr_856 (by decide) (by decide +kernel) rfl dX12_clause_266 ?_
                  refine lv_aload_n G0.1 G0.2.1 dX12_clause_269 rfl (lv_at hl 2 rfl) ?_
                  refine py_get (C := RX12) (T := TX12) (N := 54) (k := 14) (v := .int v_106) G0 hw in_X12_clause_X12 rfl hr_856 (by decide) (by decide +kernel) rfl dX12_clause_270 ?_
                  refine lv_dup2_11 G0.1 G0.2.1 dX12_clause_273 rfl rfl ?_
                  obtain ⟨g_903, ha_904, hi_905⟩ := wf_arr (n := 5) (lo := 0) (hi := 90) hWF (wt12_9 hG Tu) (by decide) (fun _ => rfl)
                  have rg_906 : vp_in v_106 5 := ti_in (by omega) (by omega)
                  refine py_iald G0 hw ha_904 rg_906 dX12_clause_274 ?_
                  refine lv_topi (fun x_907 ex_907 => ?_)
                  have bx_907 := ti_at hi_905 rg_906 ex_907
                  have zx_907 := arz_ld ha_904 ex_907
                  have hkxx_907 := clv_ld hr_856 rfl ha_904 ex_907
                  refine lv_iconst (v := 1) G0.1 G0.2.1 dX12_clause_275 (by decide) ?_
                  refine lv_iadd G0.1 G0.2.1 dX12_clause_276 ?_
                  refine lv_topi (fun x_908 ex_908 => ?_)
                  first | have tx_908 := ti_add ex_908 (by omega -splitDisjunctions) (by omega -splitDisjunctions) | skip
                  have rg_909 : vp_in v_106 5 := ti_in (by omega) (by omega)
                  refine py_iast G0 hw ha_904 rg_909 dX12_clause_277 (fun f_910 H_911 locs h_912 x_913 hw => ?_)
                  have hkw : KP G [44] false f_891 f_910 := KP.refl.upd hWF x_913 (wt12_9 hG Tu) (Or.inl (by decide))
                  have hX10 := hX10.same ((x_913 _ (hWF _ (by rw [wt12_10 hG Tu]; decide)).1 (wf_ne (wt12_10 hG Tu) (wt12_9 hG Tu) (by decide))).2)
                  have hX11 := hX11.same ((x_913 _ (hWF _ (by rw [wt12_11 hG Tu]; decide)).1 (wf_ne (wt12_11 hG Tu) (wt12_9 hG Tu) (by decide))).2)
                  have hX12 := hX12.same ((x_913 _ (hWF _ (by rw [wt12_12 hG Tu]; decide)).1 (wf_ne (wt12_12 hG Tu) (wt12_9 hG Tu) (by decide))).2)
                  have hV10 := (arz_kp ((x_913 _ (hWF _ (by rw [wt12_10 hG Tu]; decide)).1 (wf_ne (wt12_10 hG Tu) (wt12_9 hG Tu) (by decide))).2) _).trans hV10
                  have hV11 := (arz_kp ((x_913 _ (hWF _ (by rw [wt12_11 hG Tu]; decide)).1 (wf_ne (wt12_11 hG Tu) (wt12_9 hG Tu) (by decide))).2) _).trans hV11
                  have hV12 := (arz_kp ((x_913 _ (hWF _ (by rw [wt12_12 hG Tu]; decide)).1 (wf_ne (wt12_12 hG Tu) (wt12_9 hG Tu) (by decide))).2) _).trans hV12
                  have hFK := hFK.same ((x_913 _ (hWF _ (by rw [Tu]; decide)).1 (wf_ne Tu (wt12_9 hG Tu) (by decide))).2)
                  have cq_914 := cdv_kp (f := f_891) (f1 := f_910) (m := u) (x_913 _ (hWF _ (by rw [wt12_8 hG Tu]; decide)).1 (wf_ne (wt12_8 hG Tu) (wt12_9 hG Tu) (by decide))).2 (mi_kp (x_913 u (hWF u (by rw [Tu]; decide)).1 (wf_ne Tu (wt12_9 hG Tu) (by decide))).2 14)
                  have hTR := hTR.same (f2 := f_910) (x_913 _ (hWF _ (by rw [wt12_6 hG Tu]; decide)).1 (wf_ne (wt12_6 hG Tu) (wt12_9 hG Tu) (by decide))).2 (x_913 _ (hWF _ (by rw [wt12_7 hG Tu]; decide)).1 (wf_ne (wt12_7 hG Tu) (wt12_9 hG Tu) (by decide))).2 (x_913 _ (hWF _ (by rw [wt12_8 hG Tu]; decide)).1 (wf_ne (wt12_8 hG Tu) (wt12_9 hG Tu) (by decide))).2 (mi_kp (x_913 u (hWF u (by rw [Tu]; decide)).1 (wf_ne Tu (wt12_9 hG Tu) (by decide))).2 14) (fun q => by have hz := mi_kp (x_913 u (hWF u (by rw [Tu]; decide)).1 (wf_ne Tu (wt12_9 hG Tu) (by decide))).2 4; omega)
                  have hKP := hKP.upd hWF x_913 (wt12_9 hG Tu) (Or.inl (by decide))
                  have hi_915 := wf_inu (k := (v_106 : Int32).toNatClampNeg) (x := x_908) hi_905 (by omega) (by omega)
                  have hWF := wf_upd hWF h_912 x_913 (by rw [(wt12_9 hG Tu)]; exact ⟨_, rfl, hi_915⟩)
                  have hr_856 := hr_856.ext x_913 (py_ne_arr hr_856 ha_904)
                  have tq_916 := mi_row hr_856 2 rfl
                  have tq_917 := mi_row hr_856 3 rfl
                  have bv_853 := wf_free v_853
                  have tq_918 := mi_row hr_856 4 rfl
                  have bv_854 := wf_free v_854
                  have tq_919 := mi_row hr_856 5 rfl
                  have bv_855 := wf_free v_855
                  have tq_920 := mi_row hr_856 14 rfl
                  have h_893 := h_893.ext x_913 (wf_ne (wt12_12 hG Tu) (wt12_9 hG Tu) (by decide))
                  have h_870 := h_870.ext x_913 (wf_ne (wt12_11 hG Tu) (wt12_9 hG Tu) (by decide))
                  have h_164 := h_164.ext x_913 (wf_ne (wt12_10 hG Tu) (wt12_9 hG Tu) (by decide))
                  have ha_883 := ha_883.ext x_913 (wf_ne (wt12_8 hG Tu) (wt12_9 hG Tu) (by decide))
                  have hX9 := hX9.up ha_904 h_912 (by omega) (by omega)
                  have hkn : clv f_910 G u = x_908.toInt := by unfold clv; rw [mi_kp (x_913 u (hWF u (by rw [Tu]; decide)).1 (wf_ne Tu (wt12_9 hG Tu) (by decide))).2 14, mi_row hr_856 14 rfl]; exact (arz_up ha_904 h_912 (by omega)).1
                  exact py_vret G0 hr hlk hw ⟨(by first | omega | (intro q; omega)), (by first | omega | (intro q; omega)), (by first | omega | (intro q; omega)), ⟨hTR.tp, hX10, hX11, hX12, hX9, by omega⟩, (fun hw => by first | exact absurd hw (by omega) | exact ⟨co_a hTR hw (by omega) (by omega) (by omega) (by omega), by omega⟩), hWF, hKP, hFK⟩ dX12_clause_278
                · skip
                  have tc_881 := ti_eq c_881
                  replace en_848 := en_848 (by omega)
                  refine lv_aload_n G0.1 G0.2.1 dX12_clause_207 rfl (lv_at hl 2 rfl) ?_
                  refine py_calli hw (va_runV (As := []) (rest := []) G0 (c_X12_look l E G L_842 f_868 H_869.size u hG hWF Tu (show 0 ≤ mi f_868 u 3 ∧ mi f_868 u 3 ≤ mi f_868 u 2 by omega)) (cwV 0 G0.2.2.2.2 g_X12_clause_X12_look_146 rfl rfl rfl (by decide +kernel) ⟨(Nat.le_of_ble_eq_true rfl), (Nat.le_of_ble_eq_true rfl)⟩) (py_preV hw (C := RX12) (T := TX12) (N := 54) rfl hr_856) rfl rfl hl.1 rfl (lv_room (Nat.le_of_ble_eq_true rfl)) dX12_clause_208 ⟨(Nat.le_of_ble_eq_true rfl), (Nat.le_of_ble_eq_true rfl)⟩) (fun r_925 L_921 f_922 H_923 locs hp_924 hw => ?_)
                  obtain ⟨en_926, en_927, en_928, hWF, kp_929, fk_930⟩ := hp_924
                  have hX9 := hX9.same (kp_f kp_929 (wt12_9 hG Tu) (by decide) (by decide) (fun _ => by decide))
                  have hX10 := hX10.same (kp_f kp_929 (wt12_10 hG Tu) (by decide) (by decide) (fun _ => by decide))
                  have hX11 := hX11.same (kp_f kp_929 (wt12_11 hG Tu) (by decide) (by decide) (fun _ => by decide))
                  have hX12 := hX12.same (kp_f kp_929 (wt12_12 hG Tu) (by decide) (by decide) (fun _ => by decide))
                  have hV10 := (arz_kp (kp_f kp_929 (wt12_10 hG Tu) (by decide) (by decide) (fun _ => by decide)) _).trans hV10
                  have hV11 := (arz_kp (kp_f kp_929 (wt12_11 hG Tu) (by decide) (by decide) (fun _ => by decide)) _).trans hV11
                  have cq_931 := cdv_k hG Tu kp_929 fk_930 (by decide)
                  have kq_932 := clv_k hG Tu kp_929 fk_930 (by decide)
                  have hFK := hFK.trans fk_930 (by decide)
                  have hKP := hKP.trans kp_929 (by decide) (by decide)
                  obtain ⟨v_933, hr_934⟩ := fk_3 hWF Tu fk_930 hr_856
                  have tq_935 := mi_row hr_934 2 rfl
                  have tq_936 := mi_row hr_934 3 rfl
                  have bv_933 := wf_free v_933
                  have tq_937 := mi_row hr_934 4 rfl
                  have bv_854 := wf_free v_854
                  have tq_938 := mi_row hr_934 5 rfl
                  have bv_855 := wf_free v_855
                  have tq_939 := mi_row hr_934 14 rfl
                  have h_870 := kp_at kp_929 hWF (wt12_11 hG Tu) (by decide) (by decide) (by decide) h_870
                  have h_164 := kp_at kp_929 hWF (wt12_10 hG Tu) (by decide) (by decide) (by decide) h_164
                  have hTR := hTR.kp hG Tu kp_929 fk_930 (by decide) (fun q => by omega)
                  have br_925 := wf_free r_925
                  refine lv_bipush (v := 63) G0.1 G0.2.1 dX12_clause_211 (by decide) ?_
                  refine lv_icmp_eq (tgt := 221) G0.1 G0.2.1 dX12_clause_213 (by decide) (fun c_940 => ?_) (fun c_940 => ?_)
                  · skip
                    have tc_940 := ti_eq c_940
                    replace en_927 := en_927 (by omega)
                    refine lv_aload_n G0.1 G0.2.1 dX12_clause_221 rfl (lv_at hl 2 rfl) ?_
                    refine lv_dup G0.1 G0.2.1 dX12_clause_222 rfl ?_
                    refine py_get (C := RX12) (T := TX12) (N := 54) (k := 3) (v := .int v_933) G0 hw in_X12_clause_X12 rfl hr_934 (by decide) (by decide +kernel) rfl dX12_clause_223 ?_
                    refine lv_iconst (v := 1) G0.1 G0.2.1 dX12_clause_226 (by decide) ?_
                    refine lv_iadd G0.1 G0.2.1 dX12_clause_227 ?_
                    refine lv_topi (fun x_941 ex_941 => ?_)
                    first | have tx_941 := ti_add ex_941 (by omega -splitDisjunctions) (by omega -splitDisjunctions) | skip
                    refine py_put (C := RX12) (T := TX12) (N := 54) (k := 3) (v := .int x_941) (fs' := [.int v_100, .ref (G.2 u 1), .int v_101, .int x_941, .int v_854, .int v_855, .ref (G.2 u 6), .ref (G.2 u 7), .ref (G.2 u 8), .ref (G.2 u 9), .ref (G.2 u 10), .ref (G.2 u 11), .ref (G.2 u 12), .int v_105, .int v_106, .ref (G.2 u 15), .ref (G.2 u 16), .ref (G.2 u 17), .ref (G.2 u 18), .int v_107, .int v_108, .ref (G.2 u 21), .ref (G.2 u 22), .ref (G.2 u 23), .int v_109, .int v_110, .ref (G.2 u 26), .ref (G.2 u 27), .ref (G.2 u 28), .int v_111, .long y_112, .int v_113, .int v_114, .int v_115, .int v_116, .ref (G.2 u 35), .ref (G.2 u 36), .ref (G.2 u 37), .ref (G.2 u 38), .ref (G.2 u 39), .ref (G.2 u 40), .ref (G.2 u 41), .ref (G.2 u 42), .int v_117, .ref (G.2 u 44), .ref (G.2 u 45), .ref (G.2 u 46), .ref (G.2 u 47), .long y_118, .ref (G.2 u 49), .ref (G.2 u 50), .int v_119, .long y_120, .int v_121]) (ty0 := tyX12) G0 hw tyX12_ok nmX12 in_X12_clause_X12 rfl hr_934 (by decide) (by decide +kernel) rfl rfl rfl rfl (Nat.le_of_ble_eq_true rfl) rfl dX12_clause_228 (fun f_942 H_943 locs h_944 x_945 hw => ?_)
                    have hX9 := hX9.same ((x_945 _ (hWF _ (by rw [wt12_9 hG Tu]; decide)).1 (wf_ne (wt12_9 hG Tu) Tu (by decide))).2)
                    have hX10 := hX10.same ((x_945 _ (hWF _ (by rw [wt12_10 hG Tu]; decide)).1 (wf_ne (wt12_10 hG Tu) Tu (by decide))).2)
                    have hX11 := hX11.same ((x_945 _ (hWF _ (by rw [wt12_11 hG Tu]; decide)).1 (wf_ne (wt12_11 hG Tu) Tu (by decide))).2)
                    have hX12 := hX12.same ((x_945 _ (hWF _ (by rw [wt12_12 hG Tu]; decide)).1 (wf_ne (wt12_12 hG Tu) Tu (by decide))).2)
                    have hV10 := (arz_kp ((x_945 _ (hWF _ (by rw [wt12_10 hG Tu]; decide)).1 (wf_ne (wt12_10 hG Tu) Tu (by decide))).2) _).trans hV10
                    have hV11 := (arz_kp ((x_945 _ (hWF _ (by rw [wt12_11 hG Tu]; decide)).1 (wf_ne (wt12_11 hG Tu) Tu (by decide))).2) _).trans hV11
                    have hFK := hFK.put hr_934 h_944 3 (by decide) rfl
                    have cq_946 := cdv_own (f1 := f_922) (f2 := f_942) hG hWF Tu x_945 (by have z1 := mi_row hr_934 14 rfl; have z2 := mi_row h_944 14 rfl; omega)
                    have hTR := hTR.own hG hWF Tu x_945 (by have z1 := mi_row hr_934 14 rfl; have z2 := mi_row h_944 14 rfl; omega) (by intro q; have z1 := mi_row hr_934 4 rfl; have z2 := mi_row h_944 4 rfl; omega)
                    have kq_947 := clv_own (f1 := f_922) (f2 := f_942) hG hWF Tu x_945 (by have z1 := mi_row hr_934 14 rfl; have z2 := mi_row h_944 14 rfl; omega)
                    have hKP := hKP.upd hWF x_945 Tu (Or.inl (by decide))
                    have hWF := wf_upd hWF h_944 x_945 (by rw [Tu]; exact ⟨v_100, v_101, x_941, v_854, v_855, v_105, v_106, v_107, v_108, v_109, v_110, v_111, y_112, v_113, v_114, v_115, v_116, v_117, y_118, v_119, y_120, v_121, rfl, ⟨by omega, by omega⟩, ⟨by omega, by omega⟩, ⟨by omega, by omega⟩, ⟨by omega, by omega⟩, ⟨by omega, by omega⟩, ⟨by omega, by omega⟩, ⟨by omega, by omega⟩, ⟨by omega, by omega⟩, ⟨by omega, by omega⟩, ⟨by omega, by omega⟩, ⟨by omega, by omega⟩, ⟨by omega, by omega⟩⟩)
                    have h_870 := h_870.ext x_945 (Ne.symm (py_ne_arr hr_934 h_870))
                    have h_164 := h_164.ext x_945 (Ne.symm (py_ne_arr hr_934 h_164))
                    have tq_948 := mi_row h_944 2 rfl
                    have tq_949 := mi_row h_944 3 rfl
                    have bx_941 := wf_free x_941
                    have tq_950 := mi_row h_944 4 rfl
                    have bv_854 := wf_free v_854
                    have tq_951 := mi_row h_944 5 rfl
                    have bv_855 := wf_free v_855
                    have tq_952 := mi_row h_944 14 rfl
                    refine lv_aload_n G0.1 G0.2.1 dX12_clause_231 rfl (lv_at hl 2 rfl) ?_
                    refine py_get (C := RX12) (T := TX12) (N := 54) (k := 11) (v := .ref (G.2 u 11)) G0 hw in_X12_clause_X12 rfl h_944 (by decide) (by decide +kernel) rfl dX12_clause_232 ?_
                    refine lv_iload_n G0.1 G0.2.1 dX12_clause_235 rfl (lv_at hl 1 rfl) ?_
                    refine lv_aload_n G0.1 G0.2.1 dX12_clause_236 rfl (lv_at hl 2 rfl) ?_
                    refine py_get (C := RX12) (T := TX12) (N := 54) (k := 8) (v := .ref (G.2 u 8)) G0 hw in_X12_clause_X12 rfl h_944 (by decide) (by decide +kernel) rfl dX12_clause_237 ?_
                    refine lv_aload_n G0.1 G0.2.1 dX12_clause_240 rfl (lv_at hl 2 rfl) ?_
                    refine py_get (C := RX12) (T := TX12) (N := 54) (k := 14) (v := .int v_106) G0 hw in_X12_clause_X12 rfl h_944 (by decide) (by decide +kernel) rfl dX12_clause_241 ?_
                    obtain ⟨g_953, ha_954, hi_955⟩ := wf_arr (n := 5) (lo := 0) (hi := 340) hWF (wt12_8 hG Tu) (by decide) (fun _ => rfl)
                    have rg_956 : vp_in v_106 5 := ti_in (by omega) (by omega)
                    refine py_iald G0 hw ha_954 rg_956 dX12_clause_244 ?_
                    refine lv_topi (fun x_957 ex_957 => ?_)
                    have bx_957 := ti_at hi_955 rg_956 ex_957
                    have zx_957 := arz_ld ha_954 ex_957
                    have hcxx_957 := cdv_ld h_944 rfl ha_954 ex_957
                    have rg_958 : vp_in x_47 450 := ti_in (by omega) (by omega)
                    refine py_iast G0 hw h_870 rg_958 dX12_clause_245 (fun f_959 H_960 locs h_961 x_962 hw => ?_)
                    have hkw : KP G [46] false f_942 f_959 := KP.refl.upd hWF x_962 (wt12_11 hG Tu) (Or.inl (by decide))
                    have hX9 := hX9.same ((x_962 _ (hWF _ (by rw [wt12_9 hG Tu]; decide)).1 (wf_ne (wt12_9 hG Tu) (wt12_11 hG Tu) (by decide))).2)
                    have hX10 := hX10.same ((x_962 _ (hWF _ (by rw [wt12_10 hG Tu]; decide)).1 (wf_ne (wt12_10 hG Tu) (wt12_11 hG Tu) (by decide))).2)
                    have hX12 := hX12.same ((x_962 _ (hWF _ (by rw [wt12_12 hG Tu]; decide)).1 (wf_ne (wt12_12 hG Tu) (wt12_11 hG Tu) (by decide))).2)
                    have hV10 := (arz_kp ((x_962 _ (hWF _ (by rw [wt12_10 hG Tu]; decide)).1 (wf_ne (wt12_10 hG Tu) (wt12_11 hG Tu) (by decide))).2) _).trans hV10
                    have hFK := hFK.same ((x_962 _ (hWF _ (by rw [Tu]; decide)).1 (wf_ne Tu (wt12_11 hG Tu) (by decide))).2)
                    have cq_963 := cdv_kp (f := f_942) (f1 := f_959) (m := u) (x_962 _ (hWF _ (by rw [wt12_8 hG Tu]; decide)).1 (wf_ne (wt12_8 hG Tu) (wt12_11 hG Tu) (by decide))).2 (mi_kp (x_962 u (hWF u (by rw [Tu]; decide)).1 (wf_ne Tu (wt12_11 hG Tu) (by decide))).2 14)
                    have kq_964 := clv_kp (f := f_942) (f1 := f_959) (m := u) (x_962 _ (hWF _ (by rw [wt12_9 hG Tu]; decide)).1 (wf_ne (wt12_9 hG Tu) (wt12_11 hG Tu) (by decide))).2 (mi_kp (x_962 u (hWF u (by rw [Tu]; decide)).1 (wf_ne Tu (wt12_11 hG Tu) (by decide))).2 14)
                    have hTR := hTR.same (f2 := f_959) (x_962 _ (hWF _ (by rw [wt12_6 hG Tu]; decide)).1 (wf_ne (wt12_6 hG Tu) (wt12_11 hG Tu) (by decide))).2 (x_962 _ (hWF _ (by rw [wt12_7 hG Tu]; decide)).1 (wf_ne (wt12_7 hG Tu) (wt12_11 hG Tu) (by decide))).2 (x_962 _ (hWF _ (by rw [wt12_8 hG Tu]; decide)).1 (wf_ne (wt12_8 hG Tu) (wt12_11 hG Tu) (by decide))).2 (mi_kp (x_962 u (hWF u (by rw [Tu]; decide)).1 (wf_ne Tu (wt12_11 hG Tu) (by decide))).2 14) (fun q => by have hz := mi_kp (x_962 u (hWF u (by rw [Tu]; decide)).1 (wf_ne Tu (wt12_11 hG Tu) (by decide))).2 4; omega)
                    have hKP := hKP.upd hWF x_962 (wt12_11 hG Tu) (Or.inl (by decide))
                    have hi_965 := wf_inu (k := (x_47 : Int32).toNatClampNeg) (x := x_957) hi_874 (wf_free x_957).1 (wf_free x_957).2
                    have hWF := wf_upd hWF h_961 x_962 (by rw [(wt12_11 hG Tu)]; exact ⟨_, rfl, hi_965⟩)
                    have h_944 := h_944.ext x_962 (py_ne_arr h_944 h_870)
                    have tq_966 := mi_row h_944 2 rfl
                    have tq_967 := mi_row h_944 3 rfl
                    have bx_941 := wf_free x_941
                    have tq_968 := mi_row h_944 4 rfl
                    have bv_854 := wf_free v_854
                    have tq_969 := mi_row h_944 5 rfl
                    have bv_855 := wf_free v_855
                    have tq_970 := mi_row h_944 14 rfl
                    have h_164 := h_164.ext x_962 (wf_ne (wt12_10 hG Tu) (wt12_11 hG Tu) (by decide))
                    have ha_954 := ha_954.ext x_962 (wf_ne (wt12_8 hG Tu) (wt12_11 hG Tu) (by decide))
                    have hX11 := hX11.up h_870 h_961 (by omega) (by omega)
                    have hV11 : arz f_959 (G.2 u 11) (90 * mi f u 14 + clv f G u) = cdv f_959 G u := by rw [show (90 * mi f u 14 + clv f G u) = x_47.toInt by omega, (arz_up h_870 h_961 (by omega)).1]; omega
                    have hTR1 := hTR
                    have hTRw : mi f_959 u 4 = -1 := by have hz := mi_kp (x_962 u (hWF u (by rw [Tu]; decide)).1 (wf_ne Tu (wt12_11 hG Tu) (by decide))).2 4; omega
                    have hcd2 := cdv_rng hG hWF Tu (by have hz := mi_kp (x_962 u (hWF u (by rw [Tu]; decide)).1 (wf_ne Tu (wt12_11 hG Tu) (by decide))).2 14; omega) (by have hz := mi_kp (x_962 u (hWF u (by rw [Tu]; decide)).1 (wf_ne Tu (wt12_11 hG Tu) (by decide))).2 14; omega)
                    have hTR : TR f_959 f_959 G u (80) 0 0 := TR.refl (by have hz := mi_kp (x_962 u (hWF u (by rw [Tu]; decide)).1 (wf_ne Tu (wt12_11 hG Tu) (by decide))).2 14; omega) (by omega)
                    refine lv_aload_n G0.1 G0.2.1 dX12_clause_246 rfl (lv_at hl 2 rfl) ?_
                    refine py_callv hw (va_runV (As := []) (rest := []) G0 (rq_sum l E G hG L_921 f_959 H_960.size u hWF Tu (show mi f_959 u 4 = -1 ∧ 0 ≤ mi f_959 u 5 ∧ mi f_959 u 5 ≤ 6 ∧ 0 ≤ mi f_959 u 3 ∧ mi f_959 u 3 ≤ mi f_959 u 2 ∧ cdv f_959 G u ≤ mi f_959 u 3 by omega)) (cwV 0 G0.2.2.2.2 g_X12_clause_X12_sum_167 rfl rfl rfl (by decide +kernel) ⟨(Nat.le_of_ble_eq_true rfl), (Nat.le_of_ble_eq_true rfl)⟩) (py_preV hw (C := RX12) (T := TX12) (N := 54) rfl h_944) rfl rfl hl.1 rfl (lv_room (Nat.le_of_ble_eq_true rfl)) dX12_clause_247 ⟨(Nat.le_of_ble_eq_true rfl), (Nat.le_of_ble_eq_true rfl)⟩) (fun L_971 f_972 H_973 locs hp_974 hw => ?_)
                    obtain ⟨en_976, en_977, en_978, hWF, kp_979, fk_980⟩ := hp_974
                    have hX9 := hX9.same (kp_f kp_979 (wt12_9 hG Tu) (by decide) (by decide) (fun _ => by decide))
                    have hX10 := hX10.same (kp_f kp_979 (wt12_10 hG Tu) (by decide) (by decide) (fun _ => by decide))
                    have hX11 := hX11.same (kp_f kp_979 (wt12_11 hG Tu) (by decide) (by decide) (fun _ => by decide))
                    have hX12 := hX12.same (kp_f kp_979 (wt12_12 hG Tu) (by decide) (by decide) (fun _ => by decide))
                    have hV10 := (arz_kp (kp_f kp_979 (wt12_10 hG Tu) (by decide) (by decide) (fun _ => by decide)) _).trans hV10
                    have hV11 := (arz_kp (kp_f kp_979 (wt12_11 hG Tu) (by decide) (by decide) (fun _ => by decide)) _).trans hV11
                    have kq_981 := clv_k hG Tu kp_979 fk_980 (by decide)
                    have hFK := hFK.trans fk_980 (by decide)
                    have hKP := hKP.trans kp_979 (by decide) (by decide)
                    obtain ⟨v_982, v_983, v_984, hr_985⟩ := fk_3_4_5 hWF Tu fk_980 h_944
                    have tq_986 := mi_row hr_985 2 rfl
                    have tq_987 := mi_row hr_985 3 rfl
                    have bv_982 := wf_free v_982
                    have tq_988 := mi_row hr_985 4 rfl
                    have bv_983 := wf_free v_983
                    have tq_989 := mi_row hr_985 5 rfl
                    have bv_984 := wf_free v_984
                    have tq_990 := mi_row hr_985 14 rfl
                    have h_961 := kp_at kp_979 hWF (wt12_11 hG Tu) (by decide) (by decide) (by decide) h_961
                    have h_164 := kp_at kp_979 hWF (wt12_10 hG Tu) (by decide) (by decide) (by decide) h_164
                    have hTR : TR f_959 f_972 G u (80) 0 1 := hTR.trans (en_978.lift (b := 0) (by omega) (by omega) (by omega) (by omega)) (fun q => by omega)
                    refine lv_aload_n G0.1 G0.2.1 dX12_clause_250 rfl (lv_at hl 2 rfl) ?_
                    refine py_get (C := RX12) (T := TX12) (N := 54) (k := 12) (v := .ref (G.2 u 12)) G0 hw in_X12_clause_X12 rfl hr_985 (by decide) (by decide +kernel) rfl dX12_clause_251 ?_
                    refine lv_iload_n G0.1 G0.2.1 dX12_clause_254 rfl (lv_at hl 1 rfl) ?_
                    refine lv_aload_n G0.1 G0.2.1 dX12_clause_255 rfl (lv_at hl 2 rfl) ?_
                    refine py_get (C := RX12) (T := TX12) (N := 54) (k := 8) (v := .ref (G.2 u 8)) G0 hw in_X12_clause_X12 rfl hr_985 (by decide) (by decide +kernel) rfl dX12_clause_256 ?_
                    refine lv_aload_n G0.1 G0.2.1 dX12_clause_259 rfl (lv_at hl 2 rfl) ?_
                    refine py_get (C := RX12) (T := TX12) (N := 54) (k := 14) (v := .int v_106) G0 hw in_X12_clause_X12 rfl hr_985 (by decide) (by decide +kernel) rfl dX12_clause_260 ?_
                    obtain ⟨g_991, ha_992, hi_993⟩ := wf_arr (n := 5) (lo := 0) (hi := 340) hWF (wt12_8 hG Tu) (by decide) (fun _ => rfl)
                    have rg_994 : vp_in v_106 5 := ti_in (by omega) (by omega)
                    refine py_iald G0 hw ha_992 rg_994 dX12_clause_263 ?_
                    refine lv_topi (fun x_995 ex_995 => ?_)
                    have bx_995 := ti_at hi_993 rg_994 ex_995
                    have zx_995 := arz_ld ha_992 ex_995
                    have hcxx_995 := cdv_ld hr_985 rfl ha_992 ex_995
                    obtain ⟨g_996, ha_997, hi_998⟩ := wf_arr (n := 450) (lo := (-2147483648)) (hi := 2147483647) hWF (wt12_12 hG Tu) (by decide) (fun _ => rfl)
                    have rg_999 : vp_in x_47 450 := ti_in (by omega) (by omega)
                    refine py_iast G0 hw ha_997 rg_999 dX12_clause_264 (fun f_1000 H_1001 locs h_1002 x_1003 hw => ?_)
                    have hkw : KP G [47] false f_972 f_1000 := KP.refl.upd hWF x_1003 (wt12_12 hG Tu) (Or.inl (by decide))
                    have hX9 := hX9.same ((x_1003 _ (hWF _ (by rw [wt12_9 hG Tu]; decide)).1 (wf_ne (wt12_9 hG Tu) (wt12_12 hG Tu) (by decide))).2)
                    have hX10 := hX10.same ((x_1003 _ (hWF _ (by rw [wt12_10 hG Tu]; decide)).1 (wf_ne (wt12_10 hG Tu) (wt12_12 hG Tu) (by decide))).2)
                    have hX11 := hX11.same ((x_1003 _ (hWF _ (by rw [wt12_11 hG Tu]; decide)).1 (wf_ne (wt12_11 hG Tu) (wt12_12 hG Tu) (by decide))).2)
                    have hV10 := (arz_kp ((x_1003 _ (hWF _ (by rw [wt12_10 hG Tu]; decide)).1 (wf_ne (wt12_10 hG Tu) (wt12_12 hG Tu) (by decide))).2) _).trans hV10
                    have hV11 := (arz_kp ((x_1003 _ (hWF _ (by rw [wt12_11 hG Tu]; decide)).1 (wf_ne (wt12_11 hG Tu) (wt12_12 hG Tu) (by decide))).2) _).trans hV11
                    have hFK := hFK.same ((x_1003 _ (hWF _ (by rw [Tu]; decide)).1 (wf_ne Tu (wt12_12 hG Tu) (by decide))).2)
                    have cq_1004 := cdv_kp (f := f_972) (f1 := f_1000) (m := u) (x_1003 _ (hWF _ (by rw [wt12_8 hG Tu]; decide)).1 (wf_ne (wt12_8 hG Tu) (wt12_12 hG Tu) (by decide))).2 (mi_kp (x_1003 u (hWF u (by rw [Tu]; decide)).1 (wf_ne Tu (wt12_12 hG Tu) (by decide))).2 14)
                    have kq_1005 := clv_kp (f := f_972) (f1 := f_1000) (m := u) (x_1003 _ (hWF _ (by rw [wt12_9 hG Tu]; decide)).1 (wf_ne (wt12_9 hG Tu) (wt12_12 hG Tu) (by decide))).2 (mi_kp (x_1003 u (hWF u (by rw [Tu]; decide)).1 (wf_ne Tu (wt12_12 hG Tu) (by decide))).2 14)
                    have hTR := hTR.same (f2 := f_1000) (x_1003 _ (hWF _ (by rw [wt12_6 hG Tu]; decide)).1 (wf_ne (wt12_6 hG Tu) (wt12_12 hG Tu) (by decide))).2 (x_1003 _ (hWF _ (by rw [wt12_7 hG Tu]; decide)).1 (wf_ne (wt12_7 hG Tu) (wt12_12 hG Tu) (by decide))).2 (x_1003 _ (hWF _ (by rw [wt12_8 hG Tu]; decide)).1 (wf_ne (wt12_8 hG Tu) (wt12_12 hG Tu) (by decide))).2 (mi_kp (x_1003 u (hWF u (by rw [Tu]; decide)).1 (wf_ne Tu (wt12_12 hG Tu) (by decide))).2 14) (fun q => by have hz := mi_kp (x_1003 u (hWF u (by rw [Tu]; decide)).1 (wf_ne Tu (wt12_12 hG Tu) (by decide))).2 4; omega)
                    have hKP := hKP.upd hWF x_1003 (wt12_12 hG Tu) (Or.inl (by decide))
                    have hi_1006 := wf_inu (k := (x_47 : Int32).toNatClampNeg) (x := x_995) hi_998 (wf_free x_995).1 (wf_free x_995).2
                    have hWF := wf_upd hWF h_1002 x_1003 (by rw [(wt12_12 hG Tu)]; exact ⟨_, rfl, hi_1006⟩)
                    have hr_985 := hr_985.ext x_1003 (py_ne_arr hr_985 ha_997)
                    have tq_1007 := mi_row hr_985 2 rfl
                    have tq_1008 := mi_row hr_985 3 rfl
                    have bv_982 := wf_free v_982
                    have tq_1009 := mi_row hr_985 4 rfl
                    have bv_983 := wf_free v_983
                    have tq_1010 := mi_row hr_985 5 rfl
                    have bv_984 := wf_free v_984
                    have tq_1011 := mi_row hr_985 14 rfl
                    have h_961 := h_961.ext x_1003 (wf_ne (wt12_11 hG Tu) (wt12_12 hG Tu) (by decide))
                    have h_164 := h_164.ext x_1003 (wf_ne (wt12_10 hG Tu) (wt12_12 hG Tu) (by decide))
                    have ha_992 := ha_992.ext x_1003 (wf_ne (wt12_8 hG Tu) (wt12_12 hG Tu) (by decide))
                    have hX12 := hX12.up ha_997 h_1002 (by omega) (by omega)
                    have hV12 : arz f_1000 (G.2 u 12) (90 * mi f u 14 + clv f G u) = cdv f_1000 G u := by rw [show (90 * mi f u 14 + clv f G u) = x_47.toInt by omega, (arz_up ha_997 h_1002 (by omega)).1]; omega
                    refine lv_aload_n G0.1 G0.2.1 dX12_clause_265 rfl (lv_at hl 2 rfl) ?_
                    refine py_get (C := RX12) (T := TX12) (N := 54) (k := 9) (v := .ref (G.2 u 9)) G0 hw in_X12_clause_X12 rfl hr_985 (by decide) (by decide +kernel) rfl dX12_clause_266 ?_
                    refine lv_aload_n G0.1 G0.2.1 dX12_clause_269 rfl (lv_at hl 2 rfl) ?_
                    refine py_get (C := RX12) (T := TX12) (N := 54) (k := 14) (v := .int v_106) G0 hw in_X12_clause_X12 rfl hr_985 (by decide) (by decide +kernel) rfl dX12_clause_270 ?_
                    refine lv_dup2_11 G0.1 G0.2.1 dX12_clause_273 rfl rfl ?_
                    obtain ⟨g_1012, ha_1013, hi_1014⟩ := wf_arr (n := 5) (lo := 0) (hi := 90) hWF (wt12_9 hG Tu) (by decide) (fun _ => rfl)
                    have rg_1015 : vp_in v_106 5 := ti_in (by omega) (by omega)
                    refine py_iald G0 hw ha_1013 rg_1015 dX12_clause_274 ?_
                    refine lv_topi (fun x_1016 ex_1016 => ?_)
                    have bx_1016 := ti_at hi_1014 rg_1015 ex_1016
                    have zx_1016 := arz_ld ha_1013 ex_1016
                    have hkxx_1016 := clv_ld hr_985 rfl ha_1013 ex_1016
                    refine lv_iconst (v := 1) G0.1 G0.2.1 dX12_clause_275 (by decide) ?_
                    refine lv_iadd G0.1 G0.2.1 dX12_clause_276 ?_
                    refine lv_topi (fun x_1017 ex_1017 => ?_)
                    first | have tx_1017 := ti_add ex_1017 (by omega -splitDisjunctions) (by omega -splitDisjunctions) | skip
                    have rg_1018 : vp_in v_106 5 := ti_in (by omega) (by omega)
                    refine py_iast G0 hw ha_1013 rg_1018 dX12_clause_277 (fun f_1019 H_1020 locs h_1021 x_1022 hw => ?_)
                    have hkw : KP G [44] false f_1000 f_1019 := KP.refl.upd hWF x_1022 (wt12_9 hG Tu) (Or.inl (by decide))
                    have hX10 := hX10.same ((x_1022 _ (hWF _ (by rw [wt12_10 hG Tu]; decide)).1 (wf_ne (wt12_10 hG Tu) (wt12_9 hG Tu) (by decide))).2)
                    have hX11 := hX11.same ((x_1022 _ (hWF _ (by rw [wt12_11 hG Tu]; decide)).1 (wf_ne (wt12_11 hG Tu) (wt12_9 hG Tu) (by decide))).2)
                    have hX12 := hX12.same ((x_1022 _ (hWF _ (by rw [wt12_12 hG Tu]; decide)).1 (wf_ne (wt12_12 hG Tu) (wt12_9 hG Tu) (by decide))).2)
                    have hV10 := (arz_kp ((x_1022 _ (hWF _ (by rw [wt12_10 hG Tu]; decide)).1 (wf_ne (wt12_10 hG Tu) (wt12_9 hG Tu) (by decide))).2) _).trans hV10
                    have hV11 := (arz_kp ((x_1022 _ (hWF _ (by rw [wt12_11 hG Tu]; decide)).1 (wf_ne (wt12_11 hG Tu) (wt12_9 hG Tu) (by decide))).2) _).trans hV11
                    have hV12 := (arz_kp ((x_1022 _ (hWF _ (by rw [wt12_12 hG Tu]; decide)).1 (wf_ne (wt12_12 hG Tu) (wt12_9 hG Tu) (by decide))).2) _).trans hV12
                    have hFK := hFK.same ((x_1022 _ (hWF _ (by rw [Tu]; decide)).1 (wf_ne Tu (wt12_9 hG Tu) (by decide))).2)
                    have cq_1023 := cdv_kp (f := f_1000) (f1 := f_1019) (m := u) (x_1022 _ (hWF _ (by rw [wt12_8 hG Tu]; decide)).1 (wf_ne (wt12_8 hG Tu) (wt12_9 hG Tu) (by decide))).2 (mi_kp (x_1022 u (hWF u (by rw [Tu]; decide)).1 (wf_ne Tu (wt12_9 hG Tu) (by decide))).2 14)
                    have hTR := hTR.same (f2 := f_1019) (x_1022 _ (hWF _ (by rw [wt12_6 hG Tu]; decide)).1 (wf_ne (wt12_6 hG Tu) (wt12_9 hG Tu) (by decide))).2 (x_1022 _ (hWF _ (by rw [wt12_7 hG Tu]; decide)).1 (wf_ne (wt12_7 hG Tu) (wt12_9 hG Tu) (by decide))).2 (x_1022 _ (hWF _ (by rw [wt12_8 hG Tu]; decide)).1 (wf_ne (wt12_8 hG Tu) (wt12_9 hG Tu) (by decide))).2 (mi_kp (x_1022 u (hWF u (by rw [Tu]; decide)).1 (wf_ne Tu (wt12_9 hG Tu) (by decide))).2 14) (fun q => by have hz := mi_kp (x_1022 u (hWF u (by rw [Tu]; decide)).1 (wf_ne Tu (wt12_9 hG Tu) (by decide))).2 4; omega)
                    have hKP := hKP.upd hWF x_1022 (wt12_9 hG Tu) (Or.inl (by decide))
                    have hi_1024 := wf_inu (k := (v_106 : Int32).toNatClampNeg) (x := x_1017) hi_1014 (by omega) (by omega)
                    have hWF := wf_upd hWF h_1021 x_1022 (by rw [(wt12_9 hG Tu)]; exact ⟨_, rfl, hi_1024⟩)
                    have hr_985 := hr_985.ext x_1022 (py_ne_arr hr_985 ha_1013)
                    have tq_1025 := mi_row hr_985 2 rfl
                    have tq_1026 := mi_row hr_985 3 rfl
                    have bv_982 := wf_free v_982
                    have tq_1027 := mi_row hr_985 4 rfl
                    have bv_983 := wf_free v_983
                    have tq_1028 := mi_row hr_985 5 rfl
                    have bv_984 := wf_free v_984
                    have tq_1029 := mi_row hr_985 14 rfl
                    have h_1002 := h_1002.ext x_1022 (wf_ne (wt12_12 hG Tu) (wt12_9 hG Tu) (by decide))
                    have h_961 := h_961.ext x_1022 (wf_ne (wt12_11 hG Tu) (wt12_9 hG Tu) (by decide))
                    have h_164 := h_164.ext x_1022 (wf_ne (wt12_10 hG Tu) (wt12_9 hG Tu) (by decide))
                    have ha_992 := ha_992.ext x_1022 (wf_ne (wt12_8 hG Tu) (wt12_9 hG Tu) (by decide))
                    have hX9 := hX9.up ha_1013 h_1021 (by omega) (by omega)
                    have hkn : clv f_1019 G u = x_1017.toInt := by unfold clv; rw [mi_kp (x_1022 u (hWF u (by rw [Tu]; decide)).1 (wf_ne Tu (wt12_9 hG Tu) (by decide))).2 14, mi_row hr_985 14 rfl]; exact (arz_up ha_1013 h_1021 (by omega)).1
                    exact py_vret G0 hr hlk hw ⟨(by first | omega | (intro q; omega)), (by first | omega | (intro q; omega)), (by first | omega | (intro q; omega)), ⟨(hTR1.tp.trans hTR.tp), hX10, hX11, hX12, hX9, by omega⟩, (fun hw => by first | exact absurd hw (by omega) | exact ⟨co_b hTR1 hTR hTRw hw (by omega) (by omega) (by omega) (by omega), by omega⟩), hWF, hKP, hFK⟩ dX12_clause_278
                  · skip
                    have tc_940 := ti_ne c_940
                    refine lv_aload_n G0.1 G0.2.1 dX12_clause_216 rfl (lv_at hl 2 rfl) ?_
                    refine py_callv hw (va_runV (As := []) (rest := []) G0 (c_X12_bad l E G L_921 f_922 H_923.size u hG hWF Tu (show 0 ≤ mi f_922 u 3 by omega)) (cwV 0 G0.2.2.2.2 g_X12_clause_X12_bad_143 rfl rfl rfl (by decide +kernel) ⟨(Nat.le_of_ble_eq_true rfl), (Nat.le_of_ble_eq_true rfl)⟩) (py_preV hw (C := RX12) (T := TX12) (N := 54) rfl hr_934) rfl rfl hl.1 rfl (lv_room (Nat.le_of_ble_eq_true rfl)) dX12_clause_217 ⟨(Nat.le_of_ble_eq_true rfl), (Nat.le_of_ble_eq_true rfl)⟩) (fun L_1030 f_1031 H_1032 locs hp_1033 hw => ?_)
                    obtain ⟨en_1035, en_1036, hWF, kp_1037, fk_1038⟩ := hp_1033
                    have hX9 := hX9.same (kp_f kp_1037 (wt12_9 hG Tu) (by decide) (by decide) (fun _ => by decide))
                    have hX10 := hX10.same (kp_f kp_1037 (wt12_10 hG Tu) (by decide) (by decide) (fun _ => by decide))
                    have hX11 := hX11.same (kp_f kp_1037 (wt12_11 hG Tu) (by decide) (by decide) (fun _ => by decide))
                    have hX12 := hX12.same (kp_f kp_1037 (wt12_12 hG Tu) (by decide) (by decide) (fun _ => by decide))
                    have hV10 := (arz_kp (kp_f kp_1037 (wt12_10 hG Tu) (by decide) (by decide) (fun _ => by decide)) _).trans hV10
                    have hV11 := (arz_kp (kp_f kp_1037 (wt12_11 hG Tu) (by decide) (by decide) (fun _ => by decide)) _).trans hV11
                    have cq_1039 := cdv_k hG Tu kp_1037 fk_1038 (by decide)
                    have kq_1040 := clv_k hG Tu kp_1037 fk_1038 (by decide)
                    have hFK := hFK.trans fk_1038 (by decide)
                    have hKP := hKP.trans kp_1037 (by decide) (by decide)
                    obtain ⟨v_1041, hr_1042⟩ := fk_4 hWF Tu fk_1038 hr_934
                    have tq_1043 := mi_row hr_1042 2 rfl
                    have tq_1044 := mi_row hr_1042 3 rfl
                    have bv_933 := wf_free v_933
                    have tq_1045 := mi_row hr_1042 4 rfl
                    have bv_1041 := wf_free v_1041
                    have tq_1046 := mi_row hr_1042 5 rfl
                    have bv_855 := wf_free v_855
                    have tq_1047 := mi_row hr_1042 14 rfl
                    have h_870 := kp_at kp_1037 hWF (wt12_11 hG Tu) (by decide) (by decide) (by decide) h_870
                    have h_164 := kp_at kp_1037 hWF (wt12_10 hG Tu) (by decide) (by decide) (by decide) h_164
                    have hTR := hTR.kp hG Tu kp_1037 fk_1038 (by decide) (fun q => by omega)
                    exact py_vret G0 hr hlk hw ⟨(by first | omega | (intro q; omega)), (by first | omega | (intro q; omega)), (by first | omega | (intro q; omega)), ⟨hTR.tp, hX10, hX11, hX12, hX9, by omega⟩, (fun hw => by first | exact absurd hw (by omega) | exact ⟨co_a hTR hw (by omega) (by omega) (by omega) (by omega), by omega⟩), hWF, hKP, hFK⟩ dX12_clause_220
      · skip
        have tc_152 := ti_ne c_152
        exact py_vret G0 hr hlk hw ⟨(by first | omega | (intro q; omega)), (by first | omega | (intro q; omega)), (by first | omega | (intro q; omega)), ⟨hTR.tp, hX10, hX11, hX12, hX9, by omega⟩, (fun hw => by first | exact absurd hw (by omega) | exact ⟨co_a hTR hw (by omega) (by omega) (by omega) (by omega), by omega⟩), hWF, hKP, hFK⟩ dX12_clause_88
    refine lv_icmp_ne (tgt := 70) G0.1 G0.2.1 dX12_clause_54 (by decide) (fun c_1048 => ?_) (fun c_1048 => ?_)
    · skip
      have tc_1048 := ti_ne c_1048
      exact jn_70 L_j39 f_89 _ _ ls hWF hKP hX9 hX10 hX11 hX12 hFK hTR (by first | omega | (intros; omega)) (by first | omega | (intros; omega)) (by first | omega | (intros; omega)) (by first | omega | (intros; omega)) hw (lv_sub hl [0, 1] rfl)
    · skip
      have tc_1048 := ti_eq c_1048
      refine lv_aload_n G0.1 G0.2.1 dX12_clause_57 rfl (lv_at hl 1 rfl) ?_
      refine py_calli hw (va_runV (As := []) (rest := []) G0 (c_X12_look l E G L_j39 f_89 H_90.size u hG hWF Tu (show 0 ≤ mi f_89 u 3 ∧ mi f_89 u 3 ≤ mi f_89 u 2 by omega)) (cwV 0 G0.2.2.2.2 g_X12_clause_X12_look_146 rfl rfl rfl (by decide +kernel) ⟨(Nat.le_of_ble_eq_true rfl), (Nat.le_of_ble_eq_true rfl)⟩) (py_preV hw (C := RX12) (T := TX12) (N := 54) rfl h_91) rfl rfl hl.1 rfl (lv_room (Nat.le_of_ble_eq_true rfl)) dX12_clause_58 ⟨(Nat.le_of_ble_eq_true rfl), (Nat.le_of_ble_eq_true rfl)⟩) (fun r_1053 L_1049 f_1050 H_1051 locs hp_1052 hw => ?_)
      obtain ⟨en_1054, en_1055, en_1056, hWF, kp_1057, fk_1058⟩ := hp_1052
      have hX9 := hX9.same (kp_f kp_1057 (wt12_9 hG Tu) (by decide) (by decide) (fun _ => by decide))
      have hX10 := hX10.same (kp_f kp_1057 (wt12_10 hG Tu) (by decide) (by decide) (fun _ => by decide))
      have hX11 := hX11.same (kp_f kp_1057 (wt12_11 hG Tu) (by decide) (by decide) (fun _ => by decide))
      have hX12 := hX12.same (kp_f kp_1057 (wt12_12 hG Tu) (by decide) (by decide) (fun _ => by decide))
      have cq_1059 := cdv_k hG Tu kp_1057 fk_1058 (by decide)
      have kq_1060 := clv_k hG Tu kp_1057 fk_1058 (by decide)
      have hFK := hFK.trans fk_1058 (by decide)
      have hKP := hKP.trans kp_1057 (by decide) (by decide)
      obtain ⟨v_1061, hr_1062⟩ := fk_3 hWF Tu fk_1058 h_91
      have tq_1063 := mi_row hr_1062 2 rfl
      have tq_1064 := mi_row hr_1062 3 rfl
      have bv_1061 := wf_free v_1061
      have tq_1065 := mi_row hr_1062 4 rfl
      have bv_51 := wf_free v_51
      have tq_1066 := mi_row hr_1062 5 rfl
      have bv_52 := wf_free v_52
      have tq_1067 := mi_row hr_1062 14 rfl
      have hTR := hTR.kp hG Tu kp_1057 fk_1058 (by decide) (fun q => by omega)
      have br_1053 := wf_free r_1053
      refine lv_bipush (v := 58) G0.1 G0.2.1 dX12_clause_61 (by decide) ?_
      refine lv_icmp_eq (tgt := 70) G0.1 G0.2.1 dX12_clause_63 (by decide) (fun c_1068 => ?_) (fun c_1068 => ?_)
      · skip
        have tc_1068 := ti_eq c_1068
        replace en_1055 := en_1055 (by omega)
        exact jn_70 L_1049 f_1050 _ _ ls hWF hKP hX9 hX10 hX11 hX12 hFK hTR (by first | omega | (intros; omega)) (by first | omega | (intros; omega)) (by first | omega | (intros; omega)) (by first | omega | (intros; omega)) hw (lv_sub hl [0, 1] rfl)
      · skip
        have tc_1068 := ti_ne c_1068
        refine lv_aload_n G0.1 G0.2.1 dX12_clause_66 rfl (lv_at hl 1 rfl) ?_
        refine py_callv hw (va_runV (As := []) (rest := []) G0 (c_X12_bad l E G L_1049 f_1050 H_1051.size u hG hWF Tu (show 0 ≤ mi f_1050 u 3 by omega)) (cwV 0 G0.2.2.2.2 g_X12_clause_X12_bad_143 rfl rfl rfl (by decide +kernel) ⟨(Nat.le_of_ble_eq_true rfl), (Nat.le_of_ble_eq_true rfl)⟩) (py_preV hw (C := RX12) (T := TX12) (N := 54) rfl hr_1062) rfl rfl hl.1 rfl (lv_room (Nat.le_of_ble_eq_true rfl)) dX12_clause_67 ⟨(Nat.le_of_ble_eq_true rfl), (Nat.le_of_ble_eq_true rfl)⟩) (fun L_1069 f_1070 H_1071 locs hp_1072 hw => ?_)
        obtain ⟨en_1074, en_1075, hWF, kp_1076, fk_1077⟩ := hp_1072
        have hX9 := hX9.same (kp_f kp_1076 (wt12_9 hG Tu) (by decide) (by decide) (fun _ => by decide))
        have hX10 := hX10.same (kp_f kp_1076 (wt12_10 hG Tu) (by decide) (by decide) (fun _ => by decide))
        have hX11 := hX11.same (kp_f kp_1076 (wt12_11 hG Tu) (by decide) (by decide) (fun _ => by decide))
        have hX12 := hX12.same (kp_f kp_1076 (wt12_12 hG Tu) (by decide) (by decide) (fun _ => by decide))
        have cq_1078 := cdv_k hG Tu kp_1076 fk_1077 (by decide)
        have kq_1079 := clv_k hG Tu kp_1076 fk_1077 (by decide)
        have hFK := hFK.trans fk_1077 (by decide)
        have hKP := hKP.trans kp_1076 (by decide) (by decide)
        obtain ⟨v_1080, hr_1081⟩ := fk_4 hWF Tu fk_1077 hr_1062
        have tq_1082 := mi_row hr_1081 2 rfl
        have tq_1083 := mi_row hr_1081 3 rfl
        have bv_1061 := wf_free v_1061
        have tq_1084 := mi_row hr_1081 4 rfl
        have bv_1080 := wf_free v_1080
        have tq_1085 := mi_row hr_1081 5 rfl
        have bv_52 := wf_free v_52
        have tq_1086 := mi_row hr_1081 14 rfl
        have hTR := hTR.kp hG Tu kp_1076 fk_1077 (by decide) (fun q => by omega)
        exact jn_70 L_1069 f_1070 _ _ ls hWF hKP hX9 hX10 hX11 hX12 hFK hTR (by first | omega | (intros; omega)) (by first | omega | (intros; omega)) (by first | omega | (intros; omega)) (by first | omega | (intros; omega)) hw (lv_sub hl [0, 1] rfl)
  refine lv_icmp_ne (tgt := 39) G0.1 G0.2.1 dX12_clause_23 (by decide) (fun c_1087 => ?_) (fun c_1087 => ?_)
  · skip
    have tc_1087 := ti_ne c_1087
    exfalso; omega
  · skip
    have tc_1087 := ti_eq c_1087
    refine lv_aload_n G0.1 G0.2.1 dX12_clause_26 rfl (lv_at hl 1 rfl) ?_
    refine py_calli hw (va_runV (As := []) (rest := []) G0 (c_X12_look l E G L f s.heap.size u hG hWF Tu (show 0 ≤ mi f u 3 ∧ mi f u 3 ≤ mi f u 2 by omega)) (cwV 0 G0.2.2.2.2 g_X12_clause_X12_look_146 rfl rfl rfl (by decide +kernel) ⟨(Nat.le_of_ble_eq_true rfl), (Nat.le_of_ble_eq_true rfl)⟩) (py_preV hw (C := RX12) (T := TX12) (N := 54) rfl hr_35) rfl rfl hl.1 rfl (lv_room (Nat.le_of_ble_eq_true rfl)) dX12_clause_27 ⟨(Nat.le_of_ble_eq_true rfl), (Nat.le_of_ble_eq_true rfl)⟩) (fun r_1092 L_1088 f_1089 H_1090 locs hp_1091 hw => ?_)
    obtain ⟨en_1093, en_1094, en_1095, hWF, kp_1096, fk_1097⟩ := hp_1091
    have hX9 := hX9.same (kp_f kp_1096 (wt12_9 hG Tu) (by decide) (by decide) (fun _ => by decide))
    have hX10 := hX10.same (kp_f kp_1096 (wt12_10 hG Tu) (by decide) (by decide) (fun _ => by decide))
    have hX11 := hX11.same (kp_f kp_1096 (wt12_11 hG Tu) (by decide) (by decide) (fun _ => by decide))
    have hX12 := hX12.same (kp_f kp_1096 (wt12_12 hG Tu) (by decide) (by decide) (fun _ => by decide))
    have cq_1098 := cdv_k hG Tu kp_1096 fk_1097 (by decide)
    have kq_1099 := clv_k hG Tu kp_1096 fk_1097 (by decide)
    have hFK := hFK.trans fk_1097 (by decide)
    have hKP := hKP.trans kp_1096 (by decide) (by decide)
    obtain ⟨v_1100, hr_1101⟩ := fk_3 hWF Tu fk_1097 hr_35
    have tq_1102 := mi_row hr_1101 2 rfl
    have tq_1103 := mi_row hr_1101 3 rfl
    have bv_1100 := wf_free v_1100
    have tq_1104 := mi_row hr_1101 4 rfl
    have bv_4 := wf_free v_4
    have tq_1105 := mi_row hr_1101 5 rfl
    have bv_5 := wf_free v_5
    have tq_1106 := mi_row hr_1101 14 rfl
    have ha_43 := kp_at kp_1096 hWF (wt12_9 hG Tu) (by decide) (by decide) (by decide) ha_43
    have hTR := hTR.kp hG Tu kp_1096 fk_1097 (by decide) (fun q => by omega)
    have br_1092 := wf_free r_1092
    refine lv_bipush (v := 121) G0.1 G0.2.1 dX12_clause_30 (by decide) ?_
    refine lv_icmp_eq (tgt := 39) G0.1 G0.2.1 dX12_clause_32 (by decide) (fun c_1107 => ?_) (fun c_1107 => ?_)
    · skip
      have tc_1107 := ti_eq c_1107
      replace en_1094 := en_1094 (by omega)
      exact jn_39 L_1088 f_1089 _ _ ls hWF hKP hX9 hX10 hX11 hX12 hFK hTR (by first | omega | (intros; omega)) (by first | omega | (intros; omega)) (by first | omega | (intros; omega)) (by first | omega | (intros; omega)) hw (lv_sub hl [0, 1] rfl)
    · skip
      have tc_1107 := ti_ne c_1107
      refine lv_aload_n G0.1 G0.2.1 dX12_clause_35 rfl (lv_at hl 1 rfl) ?_
      refine py_callv hw (va_runV (As := []) (rest := []) G0 (c_X12_bad l E G L_1088 f_1089 H_1090.size u hG hWF Tu (show 0 ≤ mi f_1089 u 3 by omega)) (cwV 0 G0.2.2.2.2 g_X12_clause_X12_bad_143 rfl rfl rfl (by decide +kernel) ⟨(Nat.le_of_ble_eq_true rfl), (Nat.le_of_ble_eq_true rfl)⟩) (py_preV hw (C := RX12) (T := TX12) (N := 54) rfl hr_1101) rfl rfl hl.1 rfl (lv_room (Nat.le_of_ble_eq_true rfl)) dX12_clause_36 ⟨(Nat.le_of_ble_eq_true rfl), (Nat.le_of_ble_eq_true rfl)⟩) (fun L_1108 f_1109 H_1110 locs hp_1111 hw => ?_)
      obtain ⟨en_1113, en_1114, hWF, kp_1115, fk_1116⟩ := hp_1111
      have hX9 := hX9.same (kp_f kp_1115 (wt12_9 hG Tu) (by decide) (by decide) (fun _ => by decide))
      have hX10 := hX10.same (kp_f kp_1115 (wt12_10 hG Tu) (by decide) (by decide) (fun _ => by decide))
      have hX11 := hX11.same (kp_f kp_1115 (wt12_11 hG Tu) (by decide) (by decide) (fun _ => by decide))
      have hX12 := hX12.same (kp_f kp_1115 (wt12_12 hG Tu) (by decide) (by decide) (fun _ => by decide))
      have cq_1117 := cdv_k hG Tu kp_1115 fk_1116 (by decide)
      have kq_1118 := clv_k hG Tu kp_1115 fk_1116 (by decide)
      have hFK := hFK.trans fk_1116 (by decide)
      have hKP := hKP.trans kp_1115 (by decide) (by decide)
      obtain ⟨v_1119, hr_1120⟩ := fk_4 hWF Tu fk_1116 hr_1101
      have tq_1121 := mi_row hr_1120 2 rfl
      have tq_1122 := mi_row hr_1120 3 rfl
      have bv_1100 := wf_free v_1100
      have tq_1123 := mi_row hr_1120 4 rfl
      have bv_1119 := wf_free v_1119
      have tq_1124 := mi_row hr_1120 5 rfl
      have bv_5 := wf_free v_5
      have tq_1125 := mi_row hr_1120 14 rfl
      have ha_43 := kp_at kp_1115 hWF (wt12_9 hG Tu) (by decide) (by decide) (by decide) ha_43
      have hTR := hTR.kp hG Tu kp_1115 fk_1116 (by decide) (fun q => by omega)
      exact jn_39 L_1108 f_1109 _ _ ls hWF hKP hX9 hX10 hX11 hX12 hFK hTR (by first | omega | (intros; omega)) (by first | omega | (intros; omega)) (by first | omega | (intros; omega)) (by first | omega | (intros; omega)) hw (lv_sub hl [0, 1] rfl)
