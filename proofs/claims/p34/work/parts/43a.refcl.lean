theorem dX12_clause_0 : decode cX12_clause 0 = .ok (.bipush 90, 2) := by decide +kernel
theorem dX12_clause_2 : decode cX12_clause 2 = .ok (.aload_n 0, 1) := by decide +kernel
theorem dX12_clause_3 : decode cX12_clause 3 = .ok (.getfield 137, 3) := by decide +kernel
theorem dX12_clause_6 : decode cX12_clause 6 = .ok (.imul, 1) := by decide +kernel
theorem dX12_clause_7 : decode cX12_clause 7 = .ok (.aload_n 0, 1) := by decide +kernel
theorem dX12_clause_8 : decode cX12_clause 8 = .ok (.getfield 22, 3) := by decide +kernel
theorem dX12_clause_11 : decode cX12_clause 11 = .ok (.aload_n 0, 1) := by decide +kernel
theorem dX12_clause_12 : decode cX12_clause 12 = .ok (.getfield 137, 3) := by decide +kernel
theorem dX12_clause_15 : decode cX12_clause 15 = .ok (.iaload, 1) := by decide +kernel
theorem dX12_clause_16 : decode cX12_clause 16 = .ok (.iadd, 1) := by decide +kernel
theorem dX12_clause_17 : decode cX12_clause 17 = .ok (.istore_n 1, 1) := by decide +kernel
theorem dX12_clause_18 : decode cX12_clause 18 = .ok (.aload_n 0, 1) := by decide +kernel
theorem dX12_clause_19 : decode cX12_clause 19 = .ok (.getfield 134, 3) := by decide +kernel
theorem dX12_clause_22 : decode cX12_clause 22 = .ok (.iconst (-1), 1) := by decide +kernel
theorem dX12_clause_23 : decode cX12_clause 23 = .ok (.if_icmp .ne 16, 3) := by decide +kernel
theorem dX12_clause_26 : decode cX12_clause 26 = .ok (.aload_n 0, 1) := by decide +kernel
theorem dX12_clause_27 : decode cX12_clause 27 = .ok (.invokevirtual 146, 3) := by decide +kernel
theorem dX12_clause_30 : decode cX12_clause 30 = .ok (.bipush 121, 2) := by decide +kernel
theorem dX12_clause_32 : decode cX12_clause 32 = .ok (.if_icmp .eq 7, 3) := by decide +kernel
theorem dX12_clause_35 : decode cX12_clause 35 = .ok (.aload_n 0, 1) := by decide +kernel
theorem dX12_clause_36 : decode cX12_clause 36 = .ok (.invokevirtual 143, 3) := by decide +kernel
theorem dX12_clause_39 : decode cX12_clause 39 = .ok (.aload_n 0, 1) := by decide +kernel
theorem dX12_clause_40 : decode cX12_clause 40 = .ok (.dup, 1) := by decide +kernel
theorem dX12_clause_41 : decode cX12_clause 41 = .ok (.getfield 127, 3) := by decide +kernel
theorem dX12_clause_44 : decode cX12_clause 44 = .ok (.iconst 1, 1) := by decide +kernel
theorem dX12_clause_45 : decode cX12_clause 45 = .ok (.iadd, 1) := by decide +kernel
theorem dX12_clause_46 : decode cX12_clause 46 = .ok (.putfield 127, 3) := by decide +kernel
theorem dX12_clause_49 : decode cX12_clause 49 = .ok (.aload_n 0, 1) := by decide +kernel
theorem dX12_clause_50 : decode cX12_clause 50 = .ok (.getfield 134, 3) := by decide +kernel
theorem dX12_clause_53 : decode cX12_clause 53 = .ok (.iconst (-1), 1) := by decide +kernel
theorem dX12_clause_54 : decode cX12_clause 54 = .ok (.if_icmp .ne 16, 3) := by decide +kernel
theorem dX12_clause_57 : decode cX12_clause 57 = .ok (.aload_n 0, 1) := by decide +kernel
theorem dX12_clause_58 : decode cX12_clause 58 = .ok (.invokevirtual 146, 3) := by decide +kernel
theorem dX12_clause_61 : decode cX12_clause 61 = .ok (.bipush 58, 2) := by decide +kernel
theorem dX12_clause_63 : decode cX12_clause 63 = .ok (.if_icmp .eq 7, 3) := by decide +kernel
theorem dX12_clause_66 : decode cX12_clause 66 = .ok (.aload_n 0, 1) := by decide +kernel
theorem dX12_clause_67 : decode cX12_clause 67 = .ok (.invokevirtual 143, 3) := by decide +kernel
theorem dX12_clause_70 : decode cX12_clause 70 = .ok (.aload_n 0, 1) := by decide +kernel
theorem dX12_clause_71 : decode cX12_clause 71 = .ok (.dup, 1) := by decide +kernel
theorem dX12_clause_72 : decode cX12_clause 72 = .ok (.getfield 127, 3) := by decide +kernel
theorem dX12_clause_75 : decode cX12_clause 75 = .ok (.iconst 1, 1) := by decide +kernel
theorem dX12_clause_76 : decode cX12_clause 76 = .ok (.iadd, 1) := by decide +kernel
theorem dX12_clause_77 : decode cX12_clause 77 = .ok (.putfield 127, 3) := by decide +kernel
theorem dX12_clause_80 : decode cX12_clause 80 = .ok (.aload_n 0, 1) := by decide +kernel
theorem dX12_clause_81 : decode cX12_clause 81 = .ok (.getfield 134, 3) := by decide +kernel
theorem dX12_clause_84 : decode cX12_clause 84 = .ok (.iconst (-1), 1) := by decide +kernel
theorem dX12_clause_85 : decode cX12_clause 85 = .ok (.if_icmp .eq 4, 3) := by decide +kernel
theorem dX12_clause_88 : decode cX12_clause 88 = .ok (.return_, 1) := by decide +kernel
theorem dX12_clause_89 : decode cX12_clause 89 = .ok (.aload_n 0, 1) := by decide +kernel
theorem dX12_clause_90 : decode cX12_clause 90 = .ok (.getfield 25, 3) := by decide +kernel
theorem dX12_clause_93 : decode cX12_clause 93 = .ok (.iload_n 1, 1) := by decide +kernel
theorem dX12_clause_94 : decode cX12_clause 94 = .ok (.aload_n 0, 1) := by decide +kernel
theorem dX12_clause_95 : decode cX12_clause 95 = .ok (.getfield 19, 3) := by decide +kernel
theorem dX12_clause_98 : decode cX12_clause 98 = .ok (.aload_n 0, 1) := by decide +kernel
theorem dX12_clause_99 : decode cX12_clause 99 = .ok (.getfield 137, 3) := by decide +kernel
theorem dX12_clause_102 : decode cX12_clause 102 = .ok (.iaload, 1) := by decide +kernel
theorem dX12_clause_103 : decode cX12_clause 103 = .ok (.iastore, 1) := by decide +kernel
theorem dX12_clause_104 : decode cX12_clause 104 = .ok (.aload_n 0, 1) := by decide +kernel
theorem dX12_clause_105 : decode cX12_clause 105 = .ok (.invokevirtual 146, 3) := by decide +kernel
theorem dX12_clause_108 : decode cX12_clause 108 = .ok (.bipush 33, 2) := by decide +kernel
theorem dX12_clause_110 : decode cX12_clause 110 = .ok (.if_icmp .eq 12, 3) := by decide +kernel
theorem dX12_clause_113 : decode cX12_clause 113 = .ok (.aload_n 0, 1) := by decide +kernel
theorem dX12_clause_114 : decode cX12_clause 114 = .ok (.invokevirtual 146, 3) := by decide +kernel
theorem dX12_clause_117 : decode cX12_clause 117 = .ok (.bipush 40, 2) := by decide +kernel
theorem dX12_clause_119 : decode cX12_clause 119 = .ok (.if_icmp .ne 7, 3) := by decide +kernel
theorem dX12_clause_122 : decode cX12_clause 122 = .ok (.iconst 1, 1) := by decide +kernel
theorem dX12_clause_123 : decode cX12_clause 123 = .ok (.goto 4, 3) := by decide +kernel
theorem dX12_clause_126 : decode cX12_clause 126 = .ok (.iconst 0, 1) := by decide +kernel
theorem dX12_clause_127 : decode cX12_clause 127 = .ok (.istore_n 2, 1) := by decide +kernel
theorem dX12_clause_128 : decode cX12_clause 128 = .ok (.iload_n 2, 1) := by decide +kernel
theorem dX12_clause_129 : decode cX12_clause 129 = .ok (.ifCond .eq 10, 3) := by decide +kernel
theorem dX12_clause_132 : decode cX12_clause 132 = .ok (.aload_n 0, 1) := by decide +kernel
theorem dX12_clause_133 : decode cX12_clause 133 = .ok (.invokevirtual 186, 3) := by decide +kernel
theorem dX12_clause_136 : decode cX12_clause 136 = .ok (.goto 47, 3) := by decide +kernel
theorem dX12_clause_139 : decode cX12_clause 139 = .ok (.aload_n 0, 1) := by decide +kernel
theorem dX12_clause_140 : decode cX12_clause 140 = .ok (.invokevirtual 167, 3) := by decide +kernel
theorem dX12_clause_143 : decode cX12_clause 143 = .ok (.aload_n 0, 1) := by decide +kernel
theorem dX12_clause_144 : decode cX12_clause 144 = .ok (.getfield 134, 3) := by decide +kernel
theorem dX12_clause_147 : decode cX12_clause 147 = .ok (.iconst (-1), 1) := by decide +kernel
theorem dX12_clause_148 : decode cX12_clause 148 = .ok (.if_icmp .ne 17, 3) := by decide +kernel
theorem dX12_clause_151 : decode cX12_clause 151 = .ok (.aload_n 0, 1) := by decide +kernel
theorem dX12_clause_152 : decode cX12_clause 152 = .ok (.invokevirtual 146, 3) := by decide +kernel
theorem dX12_clause_155 : decode cX12_clause 155 = .ok (.invokestatic 180, 3) := by decide +kernel
theorem dX12_clause_158 : decode cX12_clause 158 = .ok (.ifCond .eq 7, 3) := by decide +kernel
theorem dX12_clause_161 : decode cX12_clause 161 = .ok (.iconst 1, 1) := by decide +kernel
theorem dX12_clause_162 : decode cX12_clause 162 = .ok (.goto 4, 3) := by decide +kernel
theorem dX12_clause_165 : decode cX12_clause 165 = .ok (.iconst 0, 1) := by decide +kernel
theorem dX12_clause_166 : decode cX12_clause 166 = .ok (.istore_n 2, 1) := by decide +kernel
theorem dX12_clause_167 : decode cX12_clause 167 = .ok (.iload_n 2, 1) := by decide +kernel
theorem dX12_clause_168 : decode cX12_clause 168 = .ok (.ifCond .eq 15, 3) := by decide +kernel
theorem dX12_clause_171 : decode cX12_clause 171 = .ok (.aload_n 0, 1) := by decide +kernel
theorem dX12_clause_172 : decode cX12_clause 172 = .ok (.invokevirtual 189, 3) := by decide +kernel
theorem dX12_clause_175 : decode cX12_clause 175 = .ok (.aload_n 0, 1) := by decide +kernel
theorem dX12_clause_176 : decode cX12_clause 176 = .ok (.invokevirtual 192, 3) := by decide +kernel
theorem dX12_clause_179 : decode cX12_clause 179 = .ok (.aload_n 0, 1) := by decide +kernel
theorem dX12_clause_180 : decode cX12_clause 180 = .ok (.invokevirtual 195, 3) := by decide +kernel
theorem dX12_clause_183 : decode cX12_clause 183 = .ok (.aload_n 0, 1) := by decide +kernel
theorem dX12_clause_184 : decode cX12_clause 184 = .ok (.getfield 28, 3) := by decide +kernel
theorem dX12_clause_187 : decode cX12_clause 187 = .ok (.iload_n 1, 1) := by decide +kernel
theorem dX12_clause_188 : decode cX12_clause 188 = .ok (.aload_n 0, 1) := by decide +kernel
theorem dX12_clause_189 : decode cX12_clause 189 = .ok (.getfield 25, 3) := by decide +kernel
theorem dX12_clause_192 : decode cX12_clause 192 = .ok (.iload_n 1, 1) := by decide +kernel
theorem dX12_clause_193 : decode cX12_clause 193 = .ok (.iaload, 1) := by decide +kernel
theorem dX12_clause_194 : decode cX12_clause 194 = .ok (.iastore, 1) := by decide +kernel
theorem dX12_clause_195 : decode cX12_clause 195 = .ok (.iload_n 2, 1) := by decide +kernel
theorem dX12_clause_196 : decode cX12_clause 196 = .ok (.ifCond .eq 54, 3) := by decide +kernel
theorem dX12_clause_199 : decode cX12_clause 199 = .ok (.aload_n 0, 1) := by decide +kernel
theorem dX12_clause_200 : decode cX12_clause 200 = .ok (.getfield 134, 3) := by decide +kernel
theorem dX12_clause_203 : decode cX12_clause 203 = .ok (.iconst (-1), 1) := by decide +kernel
theorem dX12_clause_204 : decode cX12_clause 204 = .ok (.if_icmp .ne 46, 3) := by decide +kernel
theorem dX12_clause_207 : decode cX12_clause 207 = .ok (.aload_n 0, 1) := by decide +kernel
theorem dX12_clause_208 : decode cX12_clause 208 = .ok (.invokevirtual 146, 3) := by decide +kernel
theorem dX12_clause_211 : decode cX12_clause 211 = .ok (.bipush 63, 2) := by decide +kernel
theorem dX12_clause_213 : decode cX12_clause 213 = .ok (.if_icmp .eq 8, 3) := by decide +kernel
theorem dX12_clause_216 : decode cX12_clause 216 = .ok (.aload_n 0, 1) := by decide +kernel
theorem dX12_clause_217 : decode cX12_clause 217 = .ok (.invokevirtual 143, 3) := by decide +kernel
theorem dX12_clause_220 : decode cX12_clause 220 = .ok (.return_, 1) := by decide +kernel
theorem dX12_clause_221 : decode cX12_clause 221 = .ok (.aload_n 0, 1) := by decide +kernel
theorem dX12_clause_222 : decode cX12_clause 222 = .ok (.dup, 1) := by decide +kernel
theorem dX12_clause_223 : decode cX12_clause 223 = .ok (.getfield 127, 3) := by decide +kernel
theorem dX12_clause_226 : decode cX12_clause 226 = .ok (.iconst 1, 1) := by decide +kernel
theorem dX12_clause_227 : decode cX12_clause 227 = .ok (.iadd, 1) := by decide +kernel
theorem dX12_clause_228 : decode cX12_clause 228 = .ok (.putfield 127, 3) := by decide +kernel
theorem dX12_clause_231 : decode cX12_clause 231 = .ok (.aload_n 0, 1) := by decide +kernel
theorem dX12_clause_232 : decode cX12_clause 232 = .ok (.getfield 28, 3) := by decide +kernel
theorem dX12_clause_235 : decode cX12_clause 235 = .ok (.iload_n 1, 1) := by decide +kernel
theorem dX12_clause_236 : decode cX12_clause 236 = .ok (.aload_n 0, 1) := by decide +kernel
theorem dX12_clause_237 : decode cX12_clause 237 = .ok (.getfield 19, 3) := by decide +kernel
theorem dX12_clause_240 : decode cX12_clause 240 = .ok (.aload_n 0, 1) := by decide +kernel
theorem dX12_clause_241 : decode cX12_clause 241 = .ok (.getfield 137, 3) := by decide +kernel
theorem dX12_clause_244 : decode cX12_clause 244 = .ok (.iaload, 1) := by decide +kernel
theorem dX12_clause_245 : decode cX12_clause 245 = .ok (.iastore, 1) := by decide +kernel
theorem dX12_clause_246 : decode cX12_clause 246 = .ok (.aload_n 0, 1) := by decide +kernel
theorem dX12_clause_247 : decode cX12_clause 247 = .ok (.invokevirtual 167, 3) := by decide +kernel
theorem dX12_clause_250 : decode cX12_clause 250 = .ok (.aload_n 0, 1) := by decide +kernel
theorem dX12_clause_251 : decode cX12_clause 251 = .ok (.getfield 31, 3) := by decide +kernel
theorem dX12_clause_254 : decode cX12_clause 254 = .ok (.iload_n 1, 1) := by decide +kernel
theorem dX12_clause_255 : decode cX12_clause 255 = .ok (.aload_n 0, 1) := by decide +kernel
theorem dX12_clause_256 : decode cX12_clause 256 = .ok (.getfield 19, 3) := by decide +kernel
theorem dX12_clause_259 : decode cX12_clause 259 = .ok (.aload_n 0, 1) := by decide +kernel
theorem dX12_clause_260 : decode cX12_clause 260 = .ok (.getfield 137, 3) := by decide +kernel
theorem dX12_clause_263 : decode cX12_clause 263 = .ok (.iaload, 1) := by decide +kernel
theorem dX12_clause_264 : decode cX12_clause 264 = .ok (.iastore, 1) := by decide +kernel
theorem dX12_clause_265 : decode cX12_clause 265 = .ok (.aload_n 0, 1) := by decide +kernel
theorem dX12_clause_266 : decode cX12_clause 266 = .ok (.getfield 22, 3) := by decide +kernel
theorem dX12_clause_269 : decode cX12_clause 269 = .ok (.aload_n 0, 1) := by decide +kernel
theorem dX12_clause_270 : decode cX12_clause 270 = .ok (.getfield 137, 3) := by decide +kernel
theorem dX12_clause_273 : decode cX12_clause 273 = .ok (.dup2, 1) := by decide +kernel
theorem dX12_clause_274 : decode cX12_clause 274 = .ok (.iaload, 1) := by decide +kernel
theorem dX12_clause_275 : decode cX12_clause 275 = .ok (.iconst 1, 1) := by decide +kernel
theorem dX12_clause_276 : decode cX12_clause 276 = .ok (.iadd, 1) := by decide +kernel
theorem dX12_clause_277 : decode cX12_clause 277 = .ok (.iastore, 1) := by decide +kernel
theorem dX12_clause_278 : decode cX12_clause 278 = .ok (.return_, 1) := by decide +kernel
def w_X12_clause : List Cond := .code yX12_clause cX12_clause 3 none :: ([Cond.fieldLink RX12 137 "HeadYearModel" "text" "I", Cond.fieldLink RX12 22 "HeadYearModel" "clauses" "[I", Cond.fieldLink RX12 134 "HeadYearModel" "wrong" "I", Cond.fieldLink RX12 127 "HeadYearModel" "at" "I", Cond.fieldLink RX12 25 "HeadYearModel" "testFrom" "[I", Cond.fieldLink RX12 19 "HeadYearModel" "codes" "[I", Cond.methodLink RX12 146 yX12_look, Cond.instanceMethod yX12_look, Cond.selects RX12 yX12_look yX12_look, Cond.initialized RX12, Cond.fieldLink RX12 28 "HeadYearModel" "sumFrom" "[I", Cond.fieldLink RX12 31 "HeadYearModel" "sumTo" "[I", Cond.methodLink RX12 167 yX12_sum, Cond.instanceMethod yX12_sum, Cond.selects RX12 yX12_sum yX12_sum, Cond.methodLink RX12 143 yX12_bad, Cond.instanceMethod yX12_bad, Cond.selects RX12 yX12_bad yX12_bad, Cond.methodLink RX12 186 yX12_condition, Cond.instanceMethod yX12_condition, Cond.selects RX12 yX12_condition yX12_condition, Cond.methodLink RX12 180 yX12_isSign, Cond.static yX12_isSign, Cond.methodLink RX12 189 yX12_compare, Cond.instanceMethod yX12_compare, Cond.selects RX12 yX12_compare yX12_compare, Cond.methodLink RX12 192 yX12_goOnAnd, Cond.instanceMethod yX12_goOnAnd, Cond.selects RX12 yX12_goOnAnd yX12_goOnAnd, Cond.methodLink RX12 195 yX12_goOnOr, Cond.instanceMethod yX12_goOnOr, Cond.selects RX12 yX12_goOnOr yX12_goOnOr] ++ (u_ws RX12 TX12 54 ++ (w_X12_look ++ (w_X12_sum ++ (w_X12_bad ++ (w_X12_condition ++ (w_X12_isSign ++ (w_X12_compare ++ (w_X12_goOnAnd ++ (w_X12_goOnOr ++ ([])))))))))))
theorem in_X12_clause_X12 : ∀ w ∈ u_ws RX12 TX12 54, w ∈ w_X12_clause := fun _ h => List.mem_cons_of_mem _ (List.mem_append_right _ (List.mem_append_left _ h))
theorem gg_X12_clause_X12_look : GoodIn w_X12_clause w_X12_look := goodIn_sub (fun _ h => List.mem_cons_of_mem _ (List.mem_append_right _ (List.mem_append_right _ (List.mem_append_left _ h)))) (by decide +kernel)
theorem gg_X12_clause_X12_sum : GoodIn w_X12_clause w_X12_sum := goodIn_sub (fun _ h => List.mem_cons_of_mem _ (List.mem_append_right _ (List.mem_append_right _ (List.mem_append_right _ (List.mem_append_left _ h))))) (by decide +kernel)
theorem gg_X12_clause_X12_bad : GoodIn w_X12_clause w_X12_bad := goodIn_sub (fun _ h => List.mem_cons_of_mem _ (List.mem_append_right _ (List.mem_append_right _ (List.mem_append_right _ (List.mem_append_right _ (List.mem_append_left _ h)))))) (by decide +kernel)
theorem gg_X12_clause_X12_condition : GoodIn w_X12_clause w_X12_condition := goodIn_sub (fun _ h => List.mem_cons_of_mem _ (List.mem_append_right _ (List.mem_append_right _ (List.mem_append_right _ (List.mem_append_right _ (List.mem_append_right _ (List.mem_append_left _ h))))))) (by decide +kernel)
theorem gg_X12_clause_X12_isSign : GoodIn w_X12_clause w_X12_isSign := goodIn_sub (fun _ h => List.mem_cons_of_mem _ (List.mem_append_right _ (List.mem_append_right _ (List.mem_append_right _ (List.mem_append_right _ (List.mem_append_right _ (List.mem_append_right _ (List.mem_append_left _ h)))))))) (by decide +kernel)
theorem gg_X12_clause_X12_compare : GoodIn w_X12_clause w_X12_compare := goodIn_sub (fun _ h => List.mem_cons_of_mem _ (List.mem_append_right _ (List.mem_append_right _ (List.mem_append_right _ (List.mem_append_right _ (List.mem_append_right _ (List.mem_append_right _ (List.mem_append_right _ (List.mem_append_left _ h))))))))) (by decide +kernel)
theorem gg_X12_clause_X12_goOnAnd : GoodIn w_X12_clause w_X12_goOnAnd := goodIn_sub (fun _ h => List.mem_cons_of_mem _ (List.mem_append_right _ (List.mem_append_right _ (List.mem_append_right _ (List.mem_append_right _ (List.mem_append_right _ (List.mem_append_right _ (List.mem_append_right _ (List.mem_append_right _ (List.mem_append_left _ h)))))))))) (by decide +kernel)
theorem gg_X12_clause_X12_goOnOr : GoodIn w_X12_clause w_X12_goOnOr := goodIn_sub (fun _ h => List.mem_cons_of_mem _ (List.mem_append_right _ (List.mem_append_right _ (List.mem_append_right _ (List.mem_append_right _ (List.mem_append_right _ (List.mem_append_right _ (List.mem_append_right _ (List.mem_append_right _ (List.mem_append_right _ (List.mem_append_left _ h))))))))))) (by decide +kernel)
theorem g_X12_clause_X12_bad_143 : GoodIn w_X12_clause (wsV RX12 143 RX12 yX12_bad w_X12_bad) := goodIn_app (goodIn_of _ (by decide +kernel)) gg_X12_clause_X12_bad
theorem g_X12_clause_X12_compare_189 : GoodIn w_X12_clause (wsV RX12 189 RX12 yX12_compare w_X12_compare) := goodIn_app (goodIn_of _ (by decide +kernel)) gg_X12_clause_X12_compare
theorem g_X12_clause_X12_condition_186 : GoodIn w_X12_clause (wsV RX12 186 RX12 yX12_condition w_X12_condition) := goodIn_app (goodIn_of _ (by decide +kernel)) gg_X12_clause_X12_condition
theorem g_X12_clause_X12_goOnAnd_192 : GoodIn w_X12_clause (wsV RX12 192 RX12 yX12_goOnAnd w_X12_goOnAnd) := goodIn_app (goodIn_of _ (by decide +kernel)) gg_X12_clause_X12_goOnAnd
theorem g_X12_clause_X12_goOnOr_195 : GoodIn w_X12_clause (wsV RX12 195 RX12 yX12_goOnOr w_X12_goOnOr) := goodIn_app (goodIn_of _ (by decide +kernel)) gg_X12_clause_X12_goOnOr
theorem g_X12_clause_X12_isSign_180 : GoodIn w_X12_clause (va_wsS RX12 180 yX12_isSign w_X12_isSign) := goodIn_app (goodIn_of _ (by decide +kernel)) gg_X12_clause_X12_isSign
theorem g_X12_clause_X12_look_146 : GoodIn w_X12_clause (wsV RX12 146 RX12 yX12_look w_X12_look) := goodIn_app (goodIn_of _ (by decide +kernel)) gg_X12_clause_X12_look
theorem g_X12_clause_X12_sum_167 : GoodIn w_X12_clause (wsV RX12 167 RX12 yX12_sum w_X12_sum) := goodIn_app (goodIn_of _ (by decide +kernel)) gg_X12_clause_X12_sum
set_option maxHeartbeats 4000000 in
set_option maxRecDepth 100000 in
theorem ol_X12_clause_183 {p : Program} {l : Launch} {e : Env} {s : State} {m : MethodId} {below : List Frame} {meth : Method} {c : Code} {E : py_E} {G : wf_G} {L : List Nat} {f : py_F} (hG : GT G) (u : Nat) (gb : rs_B) (nb : Int) (pb : Int) (Tu : G.1 u = 13) (G0 : CallFix p m c cX12_clause 3 s ([.ref u] : List Value).toArray w_X12_clause RX12) (hr : meth.sig.returnType = none) (hlk : meth.locks = false) (x_47 : Int32) (hk :  x_47.toInt = (90 * mi f u 14 + clv f G u)) (hcd : 0 ≤ cdv f G u ∧ cdv f G u ≤ 340) (hck : 0 ≤ clv f G u ∧ clv f G u ≤ 90) (hp0 : mi f u 4 = -1 ∧ mi f u 5 = 0 ∧ 0 ≤ mi f u 3 ∧ mi f u 3 ≤ mi f u 2 ∧ cdv f G u ≤ mi f u 3 ∧ 2 * clv f G u ≤ mi f u 3) (h14 : (0 ≤ mi f u 14 ∧ mi f u 14 ≤ 4) ∧ 0 ≤ mi f u 2 ∧ mi f u 2 ≤ 160) (hn2 : mi f u 2 = nb ∧ mi f u 3 = pb ∧ 0 ≤ pb) : ∀ (v_194 : Int32) (L_j183 : List Nat) (f_j183 : py_F) (H_j183 : Heap) (locs : List Loc) (ls : Array Slot), (0 ≤ v_194.toInt ∧ v_194.toInt ≤ 1) → WF E G L_j183 f_j183 → KP G [41, 42, 43, 44, 45, 46, 47, 13] false f f_j183 → AX f f_j183 (G.2 u 9) (mi f u 14) → AX f f_j183 (G.2 u 10) (90 * mi f u 14 + clv f G u) → AX f f_j183 (G.2 u 11) (90 * mi f u 14 + clv f G u) → AX f f_j183 (G.2 u 12) (90 * mi f u 14 + clv f G u) → AG f_j183 (G.2 u 1) gb nb → FK [3, 4, 5] f f_j183 u → TR f f_j183 G u (80) 0 1 → arz f_j183 (G.2 u 10) (90 * mi f u 14 + clv f G u) = cdv f G u → (mi f u 3 + 2 ≤ mi f_j183 u 3 ∧ cdv f_j183 G u ≤ mi f_j183 u 3 ∧ mi f_j183 u 3 ≤ 167) → (clv f_j183 G u = clv f G u ∧ mi f_j183 u 14 = mi f u 14 ∧ mi f_j183 u 2 = mi f u 2) → (mi f_j183 u 4 = -1 → mi f_j183 u 5 = 0 ∧ mi f_j183 u 3 ≤ mi f u 2) → (v_194.toInt = 1 → mi f_j183 u 4 = -1 → (rs_ca gb nb pb) = rs_tl gb nb (mi f_j183 u 3)) → (v_194.toInt = 0 → mi f_j183 u 4 = -1 → (rs_ca gb nb pb) = (1, mi f_j183 u 3)) → (mi f_j183 u 4 ≠ -1 → (rs_ca gb nb pb) = (0, mi f_j183 u 4)) → py_W E (va_A (va_pl L f) s.heap.size) s L_j183 f_j183 H_j183 locs → lv_has ls 3 [(1, .int x_47), (0, .ref u), (2, .int v_194)] → W p l e (headSpec w_X12_clause ({ frames := 67, cells := 0, slots := 0, locals := 3680 })).room s m ([.ref u] : List Value).toArray below meth c H_j183 locs 0 0 (MQ below (py_Qv E L f s.heap.size (fun L1 f1 => (mi f u 3 + 2 ≤ mi f1 u 3 ∧ cdv f1 G u ≤ mi f1 u 3 ∧ mi f1 u 3 ≤ 170) ∧ (mi f1 u 4 = -1 → mi f1 u 5 = 0 ∧ mi f1 u 3 ≤ mi f u 2 ∧ clv f1 G u = clv f G u + 1) ∧ (clv f1 G u = clv f G u ∨ clv f1 G u = clv f G u + 1) ∧ (CX f f1 G u) ∧ (mi f1 u 4 = -1 → CO f1 G u (mi f u 14) (90 * mi f u 14 + clv f G u) ∧ arz f1 (G.2 u 12) (90 * mi f u 14 + clv f G u) ≤ cdv f1 G u) ∧ (mi f1 u 4 = -1 → (rs_ca gb nb pb).1 ≠ 0 ∧ mi f1 u 3 = (rs_ca gb nb pb).2) ∧ (mi f1 u 4 ≠ -1 → (rs_ca gb nb pb).1 = 0 ∧ mi f1 u 4 = (rs_ca gb nb pb).2) ∧ WF E G L1 f1 ∧ KP G [41, 42, 43, 44, 45, 46, 47, 13] false f f1 ∧ FK [3, 4, 5] f f1 u)) ([.ref u] : List Value).toArray s 0 0 (va_A (va_pl L f) s.heap.size)) (F0 m 183 ls []) := by
  have kcm1 : (-1 : Int32).toInt = -1 := rfl
  have kc0 : (0 : Int32).toInt = 0 := rfl
  have kc1 : (1 : Int32).toInt = 1 := rfl
  have kc33 : (33 : Int32).toInt = 33 := rfl
  have kc63 : (63 : Int32).toInt = 63 := rfl
  have kc90 : (90 : Int32).toInt = 90 := rfl
  intro v_194 L_j183 f_j183 H_j183 locs ls bv_194 hWF hKP hX9 hX10 hX11 hX12 hMB hFK hTR hV10 jv0 jv1 jv2 jv3 jv4 jv5 hw hl
  refine lv_aload_n G0.1 G0.2.1 dX12_clause_183 rfl (lv_at hl 1 rfl) ?_
  obtain ⟨v_195, v_196, v_197, v_198, v_199, v_200, v_201, v_202, v_203, v_204, v_205, v_206, y_207, v_208, v_209, v_210, v_211, v_212, y_213, v_214, y_215, v_216, hr_229, b_217, b_218, b_219, b_220, b_221, b_222, b_223, b_224, b_225, b_226, b_227, b_228⟩ := wg_12 hWF Tu
  have tq_230 := mi_row hr_229 2 rfl
  have tq_231 := mi_row hr_229 3 rfl
  have bv_197 := wf_free v_197
  have tq_232 := mi_row hr_229 4 rfl
  have bv_198 := wf_free v_198
  have tq_233 := mi_row hr_229 5 rfl
  have bv_199 := wf_free v_199
  have tq_234 := mi_row hr_229 14 rfl
  refine py_get (C := RX12) (T := TX12) (N := 54) (k := 11) (v := .ref (G.2 u 11)) G0 hw in_X12_clause_X12 rfl hr_229 (by decide) (by decide +kernel) rfl dX12_clause_184 ?_
  refine lv_iload_n G0.1 G0.2.1 dX12_clause_187 rfl (lv_at hl 0 rfl) ?_
  refine lv_aload_n G0.1 G0.2.1 dX12_clause_188 rfl (lv_at hl 1 rfl) ?_
  refine py_get (C := RX12) (T := TX12) (N := 54) (k := 10) (v := .ref (G.2 u 10)) G0 hw in_X12_clause_X12 rfl hr_229 (by decide) (by decide +kernel) rfl dX12_clause_189 ?_
  refine lv_iload_n G0.1 G0.2.1 dX12_clause_192 rfl (lv_at hl 0 rfl) ?_
  obtain ⟨g_235, ha_236, hi_237⟩ := wf_arr (n := 450) (lo := (-2147483648)) (hi := 2147483647) hWF (wt12_10 hG Tu) (by decide) (fun _ => rfl)
  have rg_238 : vp_in x_47 450 := ti_in (by omega) (by omega)
  refine py_iald G0 hw ha_236 rg_238 dX12_clause_193 ?_
  refine lv_topi (fun x_239 ex_239 => ?_)
  have bx_239 := wf_free x_239
  have zx_239 := arz_ld ha_236 ex_239
  have hV10x : arz f_j183 (G.2 u 10) x_47.toInt = cdv f G u := by rw [← show (90 * mi f u 14 + clv f G u) = x_47.toInt by omega]; exact hV10
  obtain ⟨g_240, ha_241, hi_242⟩ := wf_arr (n := 450) (lo := (-2147483648)) (hi := 2147483647) hWF (wt12_11 hG Tu) (by decide) (fun _ => rfl)
  have rg_243 : vp_in x_47 450 := ti_in (by omega) (by omega)
  refine py_iast G0 hw ha_241 rg_243 dX12_clause_194 (fun f_244 H_245 locs h_246 x_247 hw => ?_)
  have hkw : KP G [46] false f_j183 f_244 := KP.refl.upd hWF x_247 (wt12_11 hG Tu) (Or.inl (by decide))
  have hX9 := hX9.same ((x_247 _ (hWF _ (by rw [wt12_9 hG Tu]; decide)).1 (wf_ne (wt12_9 hG Tu) (wt12_11 hG Tu) (by decide))).2)
  have hX10 := hX10.same ((x_247 _ (hWF _ (by rw [wt12_10 hG Tu]; decide)).1 (wf_ne (wt12_10 hG Tu) (wt12_11 hG Tu) (by decide))).2)
  have hX12 := hX12.same ((x_247 _ (hWF _ (by rw [wt12_12 hG Tu]; decide)).1 (wf_ne (wt12_12 hG Tu) (wt12_11 hG Tu) (by decide))).2)
  have hV10 := (arz_kp ((x_247 _ (hWF _ (by rw [wt12_10 hG Tu]; decide)).1 (wf_ne (wt12_10 hG Tu) (wt12_11 hG Tu) (by decide))).2) _).trans hV10
  have hMB := hMB.kp (kp_f (KP.refl.upd hWF x_247 (wt12_11 hG Tu) (Or.inl (by decide)) : KP G [46] false f_j183 f_244) (wt12_1 hG Tu) (by decide) (by decide) (fun _ => by decide))
  have hFK := hFK.same ((x_247 _ (hWF _ (by rw [Tu]; decide)).1 (wf_ne Tu (wt12_11 hG Tu) (by decide))).2)
  have cq_248 := cdv_kp (f := f_j183) (f1 := f_244) (m := u) (x_247 _ (hWF _ (by rw [wt12_8 hG Tu]; decide)).1 (wf_ne (wt12_8 hG Tu) (wt12_11 hG Tu) (by decide))).2 (mi_kp (x_247 u (hWF u (by rw [Tu]; decide)).1 (wf_ne Tu (wt12_11 hG Tu) (by decide))).2 14)
  have kq_249 := clv_kp (f := f_j183) (f1 := f_244) (m := u) (x_247 _ (hWF _ (by rw [wt12_9 hG Tu]; decide)).1 (wf_ne (wt12_9 hG Tu) (wt12_11 hG Tu) (by decide))).2 (mi_kp (x_247 u (hWF u (by rw [Tu]; decide)).1 (wf_ne Tu (wt12_11 hG Tu) (by decide))).2 14)
  have hTR := hTR.same (f2 := f_244) (x_247 _ (hWF _ (by rw [wt12_6 hG Tu]; decide)).1 (wf_ne (wt12_6 hG Tu) (wt12_11 hG Tu) (by decide))).2 (x_247 _ (hWF _ (by rw [wt12_7 hG Tu]; decide)).1 (wf_ne (wt12_7 hG Tu) (wt12_11 hG Tu) (by decide))).2 (x_247 _ (hWF _ (by rw [wt12_8 hG Tu]; decide)).1 (wf_ne (wt12_8 hG Tu) (wt12_11 hG Tu) (by decide))).2 (mi_kp (x_247 u (hWF u (by rw [Tu]; decide)).1 (wf_ne Tu (wt12_11 hG Tu) (by decide))).2 14) (fun q => by have hz := mi_kp (x_247 u (hWF u (by rw [Tu]; decide)).1 (wf_ne Tu (wt12_11 hG Tu) (by decide))).2 4; omega)
  have hKP := hKP.upd hWF x_247 (wt12_11 hG Tu) (Or.inl (by decide))
  have hi_250 := wf_inu (k := (x_47 : Int32).toNatClampNeg) (x := x_239) hi_242 (wf_free x_239).1 (wf_free x_239).2
  have hWF := wf_upd hWF h_246 x_247 (by rw [(wt12_11 hG Tu)]; exact ⟨_, rfl, hi_250⟩)
  have hr_229 := hr_229.ext x_247 (py_ne_arr hr_229 ha_241)
  have tq_251 := mi_row hr_229 2 rfl
  have tq_252 := mi_row hr_229 3 rfl
  have bv_197 := wf_free v_197
  have tq_253 := mi_row hr_229 4 rfl
  have bv_198 := wf_free v_198
  have tq_254 := mi_row hr_229 5 rfl
  have bv_199 := wf_free v_199
  have tq_255 := mi_row hr_229 14 rfl
  have ha_236 := ha_236.ext x_247 (wf_ne (wt12_10 hG Tu) (wt12_11 hG Tu) (by decide))
  have hX11 := hX11.up ha_241 h_246 (by omega) (by omega)
  have hV11 : arz f_244 (G.2 u 11) (90 * mi f u 14 + clv f G u) = cdv f G u := by rw [show (90 * mi f u 14 + clv f G u) = x_47.toInt by omega, (arz_up ha_241 h_246 (by omega)).1]; omega
  refine lv_iload_n G0.1 G0.2.1 dX12_clause_195 rfl (lv_at hl 2 rfl) ?_
  refine lv_if_eq (tgt := 250) G0.1 G0.2.1 dX12_clause_196 (by decide) (fun c_256 => ?_) (fun c_256 => ?_)
  · skip
    have tc_256 := ti_eq c_256
    refine lv_aload_n G0.1 G0.2.1 dX12_clause_250 rfl (lv_at hl 1 rfl) ?_
    refine py_get (C := RX12) (T := TX12) (N := 54) (k := 12) (v := .ref (G.2 u 12)) G0 hw in_X12_clause_X12 rfl hr_229 (by decide) (by decide +kernel) rfl dX12_clause_251 ?_
    refine lv_iload_n G0.1 G0.2.1 dX12_clause_254 rfl (lv_at hl 0 rfl) ?_
    refine lv_aload_n G0.1 G0.2.1 dX12_clause_255 rfl (lv_at hl 1 rfl) ?_
    refine py_get (C := RX12) (T := TX12) (N := 54) (k := 8) (v := .ref (G.2 u 8)) G0 hw in_X12_clause_X12 rfl hr_229 (by decide) (by decide +kernel) rfl dX12_clause_256 ?_
    refine lv_aload_n G0.1 G0.2.1 dX12_clause_259 rfl (lv_at hl 1 rfl) ?_
    refine py_get (C := RX12) (T := TX12) (N := 54) (k := 14) (v := .int v_201) G0 hw in_X12_clause_X12 rfl hr_229 (by decide) (by decide +kernel) rfl dX12_clause_260 ?_
    obtain ⟨g_257, ha_258, hi_259⟩ := wf_arr (n := 5) (lo := 0) (hi := 340) hWF (wt12_8 hG Tu) (by decide) (fun _ => rfl)
    have rg_260 : vp_in v_201 5 := ti_in (by omega) (by omega)
    refine py_iald G0 hw ha_258 rg_260 dX12_clause_263 ?_
    refine lv_topi (fun x_261 ex_261 => ?_)
    have bx_261 := ti_at hi_259 rg_260 ex_261
    have zx_261 := arz_ld ha_258 ex_261
    have hcxx_261 := cdv_ld hr_229 rfl ha_258 ex_261
    obtain ⟨g_262, ha_263, hi_264⟩ := wf_arr (n := 450) (lo := (-2147483648)) (hi := 2147483647) hWF (wt12_12 hG Tu) (by decide) (fun _ => rfl)
    have rg_265 : vp_in x_47 450 := ti_in (by omega) (by omega)
    refine py_iast G0 hw ha_263 rg_265 dX12_clause_264 (fun f_266 H_267 locs h_268 x_269 hw => ?_)
    have hkw : KP G [47] false f_244 f_266 := KP.refl.upd hWF x_269 (wt12_12 hG Tu) (Or.inl (by decide))
    have hX9 := hX9.same ((x_269 _ (hWF _ (by rw [wt12_9 hG Tu]; decide)).1 (wf_ne (wt12_9 hG Tu) (wt12_12 hG Tu) (by decide))).2)
    have hX10 := hX10.same ((x_269 _ (hWF _ (by rw [wt12_10 hG Tu]; decide)).1 (wf_ne (wt12_10 hG Tu) (wt12_12 hG Tu) (by decide))).2)
    have hX11 := hX11.same ((x_269 _ (hWF _ (by rw [wt12_11 hG Tu]; decide)).1 (wf_ne (wt12_11 hG Tu) (wt12_12 hG Tu) (by decide))).2)
    have hV10 := (arz_kp ((x_269 _ (hWF _ (by rw [wt12_10 hG Tu]; decide)).1 (wf_ne (wt12_10 hG Tu) (wt12_12 hG Tu) (by decide))).2) _).trans hV10
    have hV11 := (arz_kp ((x_269 _ (hWF _ (by rw [wt12_11 hG Tu]; decide)).1 (wf_ne (wt12_11 hG Tu) (wt12_12 hG Tu) (by decide))).2) _).trans hV11
    have hMB := hMB.kp (kp_f (KP.refl.upd hWF x_269 (wt12_12 hG Tu) (Or.inl (by decide)) : KP G [47] false f_244 f_266) (wt12_1 hG Tu) (by decide) (by decide) (fun _ => by decide))
    have hFK := hFK.same ((x_269 _ (hWF _ (by rw [Tu]; decide)).1 (wf_ne Tu (wt12_12 hG Tu) (by decide))).2)
    have cq_270 := cdv_kp (f := f_244) (f1 := f_266) (m := u) (x_269 _ (hWF _ (by rw [wt12_8 hG Tu]; decide)).1 (wf_ne (wt12_8 hG Tu) (wt12_12 hG Tu) (by decide))).2 (mi_kp (x_269 u (hWF u (by rw [Tu]; decide)).1 (wf_ne Tu (wt12_12 hG Tu) (by decide))).2 14)
    have kq_271 := clv_kp (f := f_244) (f1 := f_266) (m := u) (x_269 _ (hWF _ (by rw [wt12_9 hG Tu]; decide)).1 (wf_ne (wt12_9 hG Tu) (wt12_12 hG Tu) (by decide))).2 (mi_kp (x_269 u (hWF u (by rw [Tu]; decide)).1 (wf_ne Tu (wt12_12 hG Tu) (by decide))).2 14)
    have hTR := hTR.same (f2 := f_266) (x_269 _ (hWF _ (by rw [wt12_6 hG Tu]; decide)).1 (wf_ne (wt12_6 hG Tu) (wt12_12 hG Tu) (by decide))).2 (x_269 _ (hWF _ (by rw [wt12_7 hG Tu]; decide)).1 (wf_ne (wt12_7 hG Tu) (wt12_12 hG Tu) (by decide))).2 (x_269 _ (hWF _ (by rw [wt12_8 hG Tu]; decide)).1 (wf_ne (wt12_8 hG Tu) (wt12_12 hG Tu) (by decide))).2 (mi_kp (x_269 u (hWF u (by rw [Tu]; decide)).1 (wf_ne Tu (wt12_12 hG Tu) (by decide))).2 14) (fun q => by have hz := mi_kp (x_269 u (hWF u (by rw [Tu]; decide)).1 (wf_ne Tu (wt12_12 hG Tu) (by decide))).2 4; omega)
    have hKP := hKP.upd hWF x_269 (wt12_12 hG Tu) (Or.inl (by decide))
    have hi_272 := wf_inu (k := (x_47 : Int32).toNatClampNeg) (x := x_261) hi_264 (wf_free x_261).1 (wf_free x_261).2
    have hWF := wf_upd hWF h_268 x_269 (by rw [(wt12_12 hG Tu)]; exact ⟨_, rfl, hi_272⟩)
    have hr_229 := hr_229.ext x_269 (py_ne_arr hr_229 ha_263)
    have tq_273 := mi_row hr_229 2 rfl
    have tq_274 := mi_row hr_229 3 rfl
    have bv_197 := wf_free v_197
    have tq_275 := mi_row hr_229 4 rfl
    have bv_198 := wf_free v_198
    have tq_276 := mi_row hr_229 5 rfl
    have bv_199 := wf_free v_199
    have tq_277 := mi_row hr_229 14 rfl
    have h_246 := h_246.ext x_269 (wf_ne (wt12_11 hG Tu) (wt12_12 hG Tu) (by decide))
    have ha_236 := ha_236.ext x_269 (wf_ne (wt12_10 hG Tu) (wt12_12 hG Tu) (by decide))
    have ha_258 := ha_258.ext x_269 (wf_ne (wt12_8 hG Tu) (wt12_12 hG Tu) (by decide))
    have hX12 := hX12.up ha_263 h_268 (by omega) (by omega)
    have hV12 : arz f_266 (G.2 u 12) (90 * mi f u 14 + clv f G u) = cdv f_266 G u := by rw [show (90 * mi f u 14 + clv f G u) = x_47.toInt by omega, (arz_up ha_263 h_268 (by omega)).1]; omega
    refine lv_aload_n G0.1 G0.2.1 dX12_clause_265 rfl (lv_at hl 1 rfl) ?_
    refine py_get (C := RX12) (T := TX12) (N := 54) (k := 9) (v := .ref (G.2 u 9)) G0 hw in_X12_clause_X12 rfl hr_229 (by decide) (by decide +kernel) rfl dX12_clause_266 ?_
    refine lv_aload_n G0.1 G0.2.1 dX12_clause_269 rfl (lv_at hl 1 rfl) ?_
    refine py_get (C := RX12) (T := TX12) (N := 54) (k := 14) (v := .int v_201) G0 hw in_X12_clause_X12 rfl hr_229 (by decide) (by decide +kernel) rfl dX12_clause_270 ?_
    refine lv_dup2_11 G0.1 G0.2.1 dX12_clause_273 rfl rfl ?_
    obtain ⟨g_278, ha_279, hi_280⟩ := wf_arr (n := 5) (lo := 0) (hi := 90) hWF (wt12_9 hG Tu) (by decide) (fun _ => rfl)
    have rg_281 : vp_in v_201 5 := ti_in (by omega) (by omega)
    refine py_iald G0 hw ha_279 rg_281 dX12_clause_274 ?_
    refine lv_topi (fun x_282 ex_282 => ?_)
    have bx_282 := ti_at hi_280 rg_281 ex_282
    have zx_282 := arz_ld ha_279 ex_282
    have hkxx_282 := clv_ld hr_229 rfl ha_279 ex_282
    refine lv_iconst (v := 1) G0.1 G0.2.1 dX12_clause_275 (by decide) ?_
    refine lv_iadd G0.1 G0.2.1 dX12_clause_276 ?_
    refine lv_topi (fun x_283 ex_283 => ?_)
    first | have tx_283 := ti_add ex_283 (by omega -splitDisjunctions) (by omega -splitDisjunctions) | skip
    have rg_284 : vp_in v_201 5 := ti_in (by omega) (by omega)
    refine py_iast G0 hw ha_279 rg_284 dX12_clause_277 (fun f_285 H_286 locs h_287 x_288 hw => ?_)
    have hkw : KP G [44] false f_266 f_285 := KP.refl.upd hWF x_288 (wt12_9 hG Tu) (Or.inl (by decide))
    have hX10 := hX10.same ((x_288 _ (hWF _ (by rw [wt12_10 hG Tu]; decide)).1 (wf_ne (wt12_10 hG Tu) (wt12_9 hG Tu) (by decide))).2)
    have hX11 := hX11.same ((x_288 _ (hWF _ (by rw [wt12_11 hG Tu]; decide)).1 (wf_ne (wt12_11 hG Tu) (wt12_9 hG Tu) (by decide))).2)
    have hX12 := hX12.same ((x_288 _ (hWF _ (by rw [wt12_12 hG Tu]; decide)).1 (wf_ne (wt12_12 hG Tu) (wt12_9 hG Tu) (by decide))).2)
    have hV10 := (arz_kp ((x_288 _ (hWF _ (by rw [wt12_10 hG Tu]; decide)).1 (wf_ne (wt12_10 hG Tu) (wt12_9 hG Tu) (by decide))).2) _).trans hV10
    have hV11 := (arz_kp ((x_288 _ (hWF _ (by rw [wt12_11 hG Tu]; decide)).1 (wf_ne (wt12_11 hG Tu) (wt12_9 hG Tu) (by decide))).2) _).trans hV11
    have hV12 := (arz_kp ((x_288 _ (hWF _ (by rw [wt12_12 hG Tu]; decide)).1 (wf_ne (wt12_12 hG Tu) (wt12_9 hG Tu) (by decide))).2) _).trans hV12
    have hMB := hMB.kp (kp_f (KP.refl.upd hWF x_288 (wt12_9 hG Tu) (Or.inl (by decide)) : KP G [44] false f_266 f_285) (wt12_1 hG Tu) (by decide) (by decide) (fun _ => by decide))
    have hFK := hFK.same ((x_288 _ (hWF _ (by rw [Tu]; decide)).1 (wf_ne Tu (wt12_9 hG Tu) (by decide))).2)
    have cq_289 := cdv_kp (f := f_266) (f1 := f_285) (m := u) (x_288 _ (hWF _ (by rw [wt12_8 hG Tu]; decide)).1 (wf_ne (wt12_8 hG Tu) (wt12_9 hG Tu) (by decide))).2 (mi_kp (x_288 u (hWF u (by rw [Tu]; decide)).1 (wf_ne Tu (wt12_9 hG Tu) (by decide))).2 14)
    have hTR := hTR.same (f2 := f_285) (x_288 _ (hWF _ (by rw [wt12_6 hG Tu]; decide)).1 (wf_ne (wt12_6 hG Tu) (wt12_9 hG Tu) (by decide))).2 (x_288 _ (hWF _ (by rw [wt12_7 hG Tu]; decide)).1 (wf_ne (wt12_7 hG Tu) (wt12_9 hG Tu) (by decide))).2 (x_288 _ (hWF _ (by rw [wt12_8 hG Tu]; decide)).1 (wf_ne (wt12_8 hG Tu) (wt12_9 hG Tu) (by decide))).2 (mi_kp (x_288 u (hWF u (by rw [Tu]; decide)).1 (wf_ne Tu (wt12_9 hG Tu) (by decide))).2 14) (fun q => by have hz := mi_kp (x_288 u (hWF u (by rw [Tu]; decide)).1 (wf_ne Tu (wt12_9 hG Tu) (by decide))).2 4; omega)
    have hKP := hKP.upd hWF x_288 (wt12_9 hG Tu) (Or.inl (by decide))
    have hi_290 := wf_inu (k := (v_201 : Int32).toNatClampNeg) (x := x_283) hi_280 (by omega) (by omega)
    have hWF := wf_upd hWF h_287 x_288 (by rw [(wt12_9 hG Tu)]; exact ⟨_, rfl, hi_290⟩)
    have hr_229 := hr_229.ext x_288 (py_ne_arr hr_229 ha_279)
    have tq_291 := mi_row hr_229 2 rfl
    have tq_292 := mi_row hr_229 3 rfl
    have bv_197 := wf_free v_197
    have tq_293 := mi_row hr_229 4 rfl
    have bv_198 := wf_free v_198
    have tq_294 := mi_row hr_229 5 rfl
    have bv_199 := wf_free v_199
    have tq_295 := mi_row hr_229 14 rfl
    have h_268 := h_268.ext x_288 (wf_ne (wt12_12 hG Tu) (wt12_9 hG Tu) (by decide))
    have h_246 := h_246.ext x_288 (wf_ne (wt12_11 hG Tu) (wt12_9 hG Tu) (by decide))
    have ha_236 := ha_236.ext x_288 (wf_ne (wt12_10 hG Tu) (wt12_9 hG Tu) (by decide))
    have ha_258 := ha_258.ext x_288 (wf_ne (wt12_8 hG Tu) (wt12_9 hG Tu) (by decide))
    have hX9 := hX9.up ha_279 h_287 (by omega) (by omega)
    have hkn : clv f_285 G u = x_283.toInt := by unfold clv; rw [mi_row hr_229 14 rfl]; exact (arz_up ha_279 h_287 (by omega)).1
    exact py_vret G0 hr hlk hw ⟨(by first | omega | (intro q; omega)), (by first | omega | (intro q; omega)), (by first | omega | (intro q; omega)), ⟨hTR.tp, hX10, hX11, hX12, hX9, by omega⟩, (fun hw => by first | exact absurd hw (by omega) | exact ⟨co_a hTR hw (by omega) (by omega) (by omega) (by omega), by omega⟩), (by intro hw; have hE : (rs_ca gb nb pb) = (1, mi f_j183 u 3) := jv4 (by omega) (by omega); rw [hE]; exact ⟨(show (1 : Int) ≠ 0 by decide), (show mi f_285 u 3 = mi f_j183 u 3 by omega)⟩), (by intro hw; have hE : (rs_ca gb nb pb) = (0, mi f_j183 u 4) := jv5 (by omega); rw [hE]; exact ⟨rfl, (show mi f_285 u 4 = mi f_j183 u 4 by omega)⟩), hWF, hKP, hFK⟩ dX12_clause_278
  · skip
    have tc_256 := ti_ne c_256
    refine lv_aload_n G0.1 G0.2.1 dX12_clause_199 rfl (lv_at hl 1 rfl) ?_
    refine py_get (C := RX12) (T := TX12) (N := 54) (k := 4) (v := .int v_198) G0 hw in_X12_clause_X12 rfl hr_229 (by decide) (by decide +kernel) rfl dX12_clause_200 ?_
    refine lv_iconst (v := (-1)) G0.1 G0.2.1 dX12_clause_203 (by decide) ?_
    refine lv_icmp_ne (tgt := 250) G0.1 G0.2.1 dX12_clause_204 (by decide) (fun c_296 => ?_) (fun c_296 => ?_)
    · skip
      have tc_296 := ti_ne c_296
      refine lv_aload_n G0.1 G0.2.1 dX12_clause_250 rfl (lv_at hl 1 rfl) ?_
      refine py_get (C := RX12) (T := TX12) (N := 54) (k := 12) (v := .ref (G.2 u 12)) G0 hw in_X12_clause_X12 rfl hr_229 (by decide) (by decide +kernel) rfl dX12_clause_251 ?_
      refine lv_iload_n G0.1 G0.2.1 dX12_clause_254 rfl (lv_at hl 0 rfl) ?_
      refine lv_aload_n G0.1 G0.2.1 dX12_clause_255 rfl (lv_at hl 1 rfl) ?_
      refine py_get (C := RX12) (T := TX12) (N := 54) (k := 8) (v := .ref (G.2 u 8)) G0 hw in_X12_clause_X12 rfl hr_229 (by decide) (by decide +kernel) rfl dX12_clause_256 ?_
      refine lv_aload_n G0.1 G0.2.1 dX12_clause_259 rfl (lv_at hl 1 rfl) ?_
      refine py_get (C := RX12) (T := TX12) (N := 54) (k := 14) (v := .int v_201) G0 hw in_X12_clause_X12 rfl hr_229 (by decide) (by decide +kernel) rfl dX12_clause_260 ?_
      obtain ⟨g_297, ha_298, hi_299⟩ := wf_arr (n := 5) (lo := 0) (hi := 340) hWF (wt12_8 hG Tu) (by decide) (fun _ => rfl)
      have rg_300 : vp_in v_201 5 := ti_in (by omega) (by omega)
      refine py_iald G0 hw ha_298 rg_300 dX12_clause_263 ?_
      refine lv_topi (fun x_301 ex_301 => ?_)
      have bx_301 := ti_at hi_299 rg_300 ex_301
      have zx_301 := arz_ld ha_298 ex_301
      have hcxx_301 := cdv_ld hr_229 rfl ha_298 ex_301
      obtain ⟨g_302, ha_303, hi_304⟩ := wf_arr (n := 450) (lo := (-2147483648)) (hi := 2147483647) hWF (wt12_12 hG Tu) (by decide) (fun _ => rfl)
      have rg_305 : vp_in x_47 450 := ti_in (by omega) (by omega)
      refine py_iast G0 hw ha_303 rg_305 dX12_clause_264 (fun f_306 H_307 locs h_308 x_309 hw => ?_)
      have hkw : KP G [47] false f_244 f_306 := KP.refl.upd hWF x_309 (wt12_12 hG Tu) (Or.inl (by decide))
      have hX9 := hX9.same ((x_309 _ (hWF _ (by rw [wt12_9 hG Tu]; decide)).1 (wf_ne (wt12_9 hG Tu) (wt12_12 hG Tu) (by decide))).2)
      have hX10 := hX10.same ((x_309 _ (hWF _ (by rw [wt12_10 hG Tu]; decide)).1 (wf_ne (wt12_10 hG Tu) (wt12_12 hG Tu) (by decide))).2)
      have hX11 := hX11.same ((x_309 _ (hWF _ (by rw [wt12_11 hG Tu]; decide)).1 (wf_ne (wt12_11 hG Tu) (wt12_12 hG Tu) (by decide))).2)
      have hV10 := (arz_kp ((x_309 _ (hWF _ (by rw [wt12_10 hG Tu]; decide)).1 (wf_ne (wt12_10 hG Tu) (wt12_12 hG Tu) (by decide))).2) _).trans hV10
      have hV11 := (arz_kp ((x_309 _ (hWF _ (by rw [wt12_11 hG Tu]; decide)).1 (wf_ne (wt12_11 hG Tu) (wt12_12 hG Tu) (by decide))).2) _).trans hV11
      have hMB := hMB.kp (kp_f (KP.refl.upd hWF x_309 (wt12_12 hG Tu) (Or.inl (by decide)) : KP G [47] false f_244 f_306) (wt12_1 hG Tu) (by decide) (by decide) (fun _ => by decide))
      have hFK := hFK.same ((x_309 _ (hWF _ (by rw [Tu]; decide)).1 (wf_ne Tu (wt12_12 hG Tu) (by decide))).2)
      have cq_310 := cdv_kp (f := f_244) (f1 := f_306) (m := u) (x_309 _ (hWF _ (by rw [wt12_8 hG Tu]; decide)).1 (wf_ne (wt12_8 hG Tu) (wt12_12 hG Tu) (by decide))).2 (mi_kp (x_309 u (hWF u (by rw [Tu]; decide)).1 (wf_ne Tu (wt12_12 hG Tu) (by decide))).2 14)
      have kq_311 := clv_kp (f := f_244) (f1 := f_306) (m := u) (x_309 _ (hWF _ (by rw [wt12_9 hG Tu]; decide)).1 (wf_ne (wt12_9 hG Tu) (wt12_12 hG Tu) (by decide))).2 (mi_kp (x_309 u (hWF u (by rw [Tu]; decide)).1 (wf_ne Tu (wt12_12 hG Tu) (by decide))).2 14)
      have hTR := hTR.same (f2 := f_306) (x_309 _ (hWF _ (by rw [wt12_6 hG Tu]; decide)).1 (wf_ne (wt12_6 hG Tu) (wt12_12 hG Tu) (by decide))).2 (x_309 _ (hWF _ (by rw [wt12_7 hG Tu]; decide)).1 (wf_ne (wt12_7 hG Tu) (wt12_12 hG Tu) (by decide))).2 (x_309 _ (hWF _ (by rw [wt12_8 hG Tu]; decide)).1 (wf_ne (wt12_8 hG Tu) (wt12_12 hG Tu) (by decide))).2 (mi_kp (x_309 u (hWF u (by rw [Tu]; decide)).1 (wf_ne Tu (wt12_12 hG Tu) (by decide))).2 14) (fun q => by have hz := mi_kp (x_309 u (hWF u (by rw [Tu]; decide)).1 (wf_ne Tu (wt12_12 hG Tu) (by decide))).2 4; omega)
      have hKP := hKP.upd hWF x_309 (wt12_12 hG Tu) (Or.inl (by decide))
      have hi_312 := wf_inu (k := (x_47 : Int32).toNatClampNeg) (x := x_301) hi_304 (wf_free x_301).1 (wf_free x_301).2
      have hWF := wf_upd hWF h_308 x_309 (by rw [(wt12_12 hG Tu)]; exact ⟨_, rfl, hi_312⟩)
      have hr_229 := hr_229.ext x_309 (py_ne_arr hr_229 ha_303)
      have tq_313 := mi_row hr_229 2 rfl
      have tq_314 := mi_row hr_229 3 rfl
      have bv_197 := wf_free v_197
      have tq_315 := mi_row hr_229 4 rfl
      have bv_198 := wf_free v_198
      have tq_316 := mi_row hr_229 5 rfl
      have bv_199 := wf_free v_199
      have tq_317 := mi_row hr_229 14 rfl
      have h_246 := h_246.ext x_309 (wf_ne (wt12_11 hG Tu) (wt12_12 hG Tu) (by decide))
      have ha_236 := ha_236.ext x_309 (wf_ne (wt12_10 hG Tu) (wt12_12 hG Tu) (by decide))
      have ha_298 := ha_298.ext x_309 (wf_ne (wt12_8 hG Tu) (wt12_12 hG Tu) (by decide))
      have hX12 := hX12.up ha_303 h_308 (by omega) (by omega)
      have hV12 : arz f_306 (G.2 u 12) (90 * mi f u 14 + clv f G u) = cdv f_306 G u := by rw [show (90 * mi f u 14 + clv f G u) = x_47.toInt by omega, (arz_up ha_303 h_308 (by omega)).1]; omega
      refine lv_aload_n G0.1 G0.2.1 dX12_clause_265 rfl (lv_at hl 1 rfl) ?_
      refine py_get (C := RX12) (T := TX12) (N := 54) (k := 9) (v := .ref (G.2 u 9)) G0 hw in_X12_clause_X12 rfl hr_229 (by decide) (by decide +kernel) rfl dX12_clause_266 ?_
      refine lv_aload_n G0.1 G0.2.1 dX12_clause_269 rfl (lv_at hl 1 rfl) ?_
      refine py_get (C := RX12) (T := TX12) (N := 54) (k := 14) (v := .int v_201) G0 hw in_X12_clause_X12 rfl hr_229 (by decide) (by decide +kernel) rfl dX12_clause_270 ?_
      refine lv_dup2_11 G0.1 G0.2.1 dX12_clause_273 rfl rfl ?_
      obtain ⟨g_318, ha_319, hi_320⟩ := wf_arr (n := 5) (lo := 0) (hi := 90) hWF (wt12_9 hG Tu) (by decide) (fun _ => rfl)
      have rg_321 : vp_in v_201 5 := ti_in (by omega) (by omega)
      refine py_iald G0 hw ha_319 rg_321 dX12_clause_274 ?_
      refine lv_topi (fun x_322 ex_322 => ?_)
      have bx_322 := ti_at hi_320 rg_321 ex_322
      have zx_322 := arz_ld ha_319 ex_322
      have hkxx_322 := clv_ld hr_229 rfl ha_319 ex_322
      refine lv_iconst (v := 1) G0.1 G0.2.1 dX12_clause_275 (by decide) ?_
      refine lv_iadd G0.1 G0.2.1 dX12_clause_276 ?_
      refine lv_topi (fun x_323 ex_323 => ?_)
      first | have tx_323 := ti_add ex_323 (by omega -splitDisjunctions) (by omega -splitDisjunctions) | skip
      have rg_324 : vp_in v_201 5 := ti_in (by omega) (by omega)
      refine py_iast G0 hw ha_319 rg_324 dX12_clause_277 (fun f_325 H_326 locs h_327 x_328 hw => ?_)
      have hkw : KP G [44] false f_306 f_325 := KP.refl.upd hWF x_328 (wt12_9 hG Tu) (Or.inl (by decide))
      have hX10 := hX10.same ((x_328 _ (hWF _ (by rw [wt12_10 hG Tu]; decide)).1 (wf_ne (wt12_10 hG Tu) (wt12_9 hG Tu) (by decide))).2)
      have hX11 := hX11.same ((x_328 _ (hWF _ (by rw [wt12_11 hG Tu]; decide)).1 (wf_ne (wt12_11 hG Tu) (wt12_9 hG Tu) (by decide))).2)
      have hX12 := hX12.same ((x_328 _ (hWF _ (by rw [wt12_12 hG Tu]; decide)).1 (wf_ne (wt12_12 hG Tu) (wt12_9 hG Tu) (by decide))).2)
      have hV10 := (arz_kp ((x_328 _ (hWF _ (by rw [wt12_10 hG Tu]; decide)).1 (wf_ne (wt12_10 hG Tu) (wt12_9 hG Tu) (by decide))).2) _).trans hV10
      have hV11 := (arz_kp ((x_328 _ (hWF _ (by rw [wt12_11 hG Tu]; decide)).1 (wf_ne (wt12_11 hG Tu) (wt12_9 hG Tu) (by decide))).2) _).trans hV11
      have hV12 := (arz_kp ((x_328 _ (hWF _ (by rw [wt12_12 hG Tu]; decide)).1 (wf_ne (wt12_12 hG Tu) (wt12_9 hG Tu) (by decide))).2) _).trans hV12
      have hMB := hMB.kp (kp_f (KP.refl.upd hWF x_328 (wt12_9 hG Tu) (Or.inl (by decide)) : KP G [44] false f_306 f_325) (wt12_1 hG Tu) (by decide) (by decide) (fun _ => by decide))
      have hFK := hFK.same ((x_328 _ (hWF _ (by rw [Tu]; decide)).1 (wf_ne Tu (wt12_9 hG Tu) (by decide))).2)
      have cq_329 := cdv_kp (f := f_306) (f1 := f_325) (m := u) (x_328 _ (hWF _ (by rw [wt12_8 hG Tu]; decide)).1 (wf_ne (wt12_8 hG Tu) (wt12_9 hG Tu) (by decide))).2 (mi_kp (x_328 u (hWF u (by rw [Tu]; decide)).1 (wf_ne Tu (wt12_9 hG Tu) (by decide))).2 14)
      have hTR := hTR.same (f2 := f_325) (x_328 _ (hWF _ (by rw [wt12_6 hG Tu]; decide)).1 (wf_ne (wt12_6 hG Tu) (wt12_9 hG Tu) (by decide))).2 (x_328 _ (hWF _ (by rw [wt12_7 hG Tu]; decide)).1 (wf_ne (wt12_7 hG Tu) (wt12_9 hG Tu) (by decide))).2 (x_328 _ (hWF _ (by rw [wt12_8 hG Tu]; decide)).1 (wf_ne (wt12_8 hG Tu) (wt12_9 hG Tu) (by decide))).2 (mi_kp (x_328 u (hWF u (by rw [Tu]; decide)).1 (wf_ne Tu (wt12_9 hG Tu) (by decide))).2 14) (fun q => by have hz := mi_kp (x_328 u (hWF u (by rw [Tu]; decide)).1 (wf_ne Tu (wt12_9 hG Tu) (by decide))).2 4; omega)
      have hKP := hKP.upd hWF x_328 (wt12_9 hG Tu) (Or.inl (by decide))
      have hi_330 := wf_inu (k := (v_201 : Int32).toNatClampNeg) (x := x_323) hi_320 (by omega) (by omega)
      have hWF := wf_upd hWF h_327 x_328 (by rw [(wt12_9 hG Tu)]; exact ⟨_, rfl, hi_330⟩)
      have hr_229 := hr_229.ext x_328 (py_ne_arr hr_229 ha_319)
      have tq_331 := mi_row hr_229 2 rfl
      have tq_332 := mi_row hr_229 3 rfl
      have bv_197 := wf_free v_197
      have tq_333 := mi_row hr_229 4 rfl
      have bv_198 := wf_free v_198
      have tq_334 := mi_row hr_229 5 rfl
      have bv_199 := wf_free v_199
      have tq_335 := mi_row hr_229 14 rfl
      have h_308 := h_308.ext x_328 (wf_ne (wt12_12 hG Tu) (wt12_9 hG Tu) (by decide))
      have h_246 := h_246.ext x_328 (wf_ne (wt12_11 hG Tu) (wt12_9 hG Tu) (by decide))
      have ha_236 := ha_236.ext x_328 (wf_ne (wt12_10 hG Tu) (wt12_9 hG Tu) (by decide))
      have ha_298 := ha_298.ext x_328 (wf_ne (wt12_8 hG Tu) (wt12_9 hG Tu) (by decide))
      have hX9 := hX9.up ha_319 h_327 (by omega) (by omega)
      have hkn : clv f_325 G u = x_323.toInt := by unfold clv; rw [mi_row hr_229 14 rfl]; exact (arz_up ha_319 h_327 (by omega)).1
      exact py_vret G0 hr hlk hw ⟨(by first | omega | (intro q; omega)), (by first | omega | (intro q; omega)), (by first | omega | (intro q; omega)), ⟨hTR.tp, hX10, hX11, hX12, hX9, by omega⟩, (fun hw => by first | exact absurd hw (by omega) | exact ⟨co_a hTR hw (by omega) (by omega) (by omega) (by omega), by omega⟩), (fun hw => absurd hw (by omega)), (by intro hw; have hE : (rs_ca gb nb pb) = (0, mi f_j183 u 4) := jv5 (by omega); rw [hE]; exact ⟨rfl, (show mi f_325 u 4 = mi f_j183 u 4 by omega)⟩), hWF, hKP, hFK⟩ dX12_clause_278
    · skip
      have tc_296 := ti_eq c_296
      refine lv_aload_n G0.1 G0.2.1 dX12_clause_207 rfl (lv_at hl 1 rfl) ?_
      refine py_calli hw (va_runV (As := []) (rest := []) G0 (c_X12_look l E G L_j183 f_244 H_245.size u gb nb (mi f_j183 u 3) hG hWF Tu (show 0 ≤ mi f_244 u 3 ∧ mi f_244 u 3 ≤ mi f_244 u 2 by omega) (show mi f_244 u 3 = (mi f_j183 u 3) by omega) (show mi f_244 u 2 = nb ∧ 0 ≤ (mi f_j183 u 3) by omega) hMB) (cwV 0 G0.2.2.2.2 g_X12_clause_X12_look_146 rfl rfl rfl (by decide +kernel) ⟨(Nat.le_of_ble_eq_true rfl), (Nat.le_of_ble_eq_true rfl)⟩) (py_preV hw (C := RX12) (T := TX12) (N := 54) rfl hr_229) rfl rfl hl.1 rfl (lv_room (Nat.le_of_ble_eq_true rfl)) dX12_clause_208 ⟨(Nat.le_of_ble_eq_true rfl), (Nat.le_of_ble_eq_true rfl)⟩) (fun r_340 L_336 f_337 H_338 locs hp_339 hw => ?_)
      obtain ⟨en_341, en_342, en_343, en_344, hWF, kp_345, fk_346⟩ := hp_339
      have hX9 := hX9.same (kp_f kp_345 (wt12_9 hG Tu) (by decide) (by decide) (fun _ => by decide))
      have hX10 := hX10.same (kp_f kp_345 (wt12_10 hG Tu) (by decide) (by decide) (fun _ => by decide))
      have hX11 := hX11.same (kp_f kp_345 (wt12_11 hG Tu) (by decide) (by decide) (fun _ => by decide))
      have hX12 := hX12.same (kp_f kp_345 (wt12_12 hG Tu) (by decide) (by decide) (fun _ => by decide))
      have hV10 := (arz_kp (kp_f kp_345 (wt12_10 hG Tu) (by decide) (by decide) (fun _ => by decide)) _).trans hV10
      have hV11 := (arz_kp (kp_f kp_345 (wt12_11 hG Tu) (by decide) (by decide) (fun _ => by decide)) _).trans hV11
      have hMB := hMB.kp (kp_f kp_345 (wt12_1 hG Tu) (by decide) (by decide) (fun _ => by decide))
      have cq_347 := cdv_k hG Tu kp_345 fk_346 (by decide)
      have kq_348 := clv_k hG Tu kp_345 fk_346 (by decide)
      have hFK := hFK.trans fk_346 (by decide)
      have hKP := hKP.trans kp_345 (by decide) (by decide)
      obtain ⟨v_349, hr_350⟩ := fk_3 hWF Tu fk_346 hr_229
      have tq_351 := mi_row hr_350 2 rfl
      have tq_352 := mi_row hr_350 3 rfl
      have bv_349 := wf_free v_349
      have tq_353 := mi_row hr_350 4 rfl
      have bv_198 := wf_free v_198
      have tq_354 := mi_row hr_350 5 rfl
      have bv_199 := wf_free v_199
      have tq_355 := mi_row hr_350 14 rfl
      have h_246 := kp_at kp_345 hWF (wt12_11 hG Tu) (by decide) (by decide) (by decide) h_246
      have ha_236 := kp_at kp_345 hWF (wt12_10 hG Tu) (by decide) (by decide) (by decide) ha_236
      have hTR := hTR.kp hG Tu kp_345 fk_346 (by decide) (fun q => by omega)
      have br_340 := wf_free r_340
      refine lv_bipush (v := 63) G0.1 G0.2.1 dX12_clause_211 (by decide) ?_
      refine lv_icmp_eq (tgt := 221) G0.1 G0.2.1 dX12_clause_213 (by decide) (fun c_356 => ?_) (fun c_356 => ?_)
      · skip
        have tc_356 := ti_eq c_356
        replace en_342 := en_342 (by omega)
        refine lv_aload_n G0.1 G0.2.1 dX12_clause_221 rfl (lv_at hl 1 rfl) ?_
        refine lv_dup G0.1 G0.2.1 dX12_clause_222 rfl ?_
        refine py_get (C := RX12) (T := TX12) (N := 54) (k := 3) (v := .int v_349) G0 hw in_X12_clause_X12 rfl hr_350 (by decide) (by decide +kernel) rfl dX12_clause_223 ?_
        refine lv_iconst (v := 1) G0.1 G0.2.1 dX12_clause_226 (by decide) ?_
        refine lv_iadd G0.1 G0.2.1 dX12_clause_227 ?_
        refine lv_topi (fun x_357 ex_357 => ?_)
        first | have tx_357 := ti_add ex_357 (by omega -splitDisjunctions) (by omega -splitDisjunctions) | skip
        refine py_put (C := RX12) (T := TX12) (N := 54) (k := 3) (v := .int x_357) (fs' := [.int v_195, .ref (G.2 u 1), .int v_196, .int x_357, .int v_198, .int v_199, .ref (G.2 u 6), .ref (G.2 u 7), .ref (G.2 u 8), .ref (G.2 u 9), .ref (G.2 u 10), .ref (G.2 u 11), .ref (G.2 u 12), .int v_200, .int v_201, .ref (G.2 u 15), .ref (G.2 u 16), .ref (G.2 u 17), .ref (G.2 u 18), .int v_202, .int v_203, .ref (G.2 u 21), .ref (G.2 u 22), .ref (G.2 u 23), .int v_204, .int v_205, .ref (G.2 u 26), .ref (G.2 u 27), .ref (G.2 u 28), .int v_206, .long y_207, .int v_208, .int v_209, .int v_210, .int v_211, .ref (G.2 u 35), .ref (G.2 u 36), .ref (G.2 u 37), .ref (G.2 u 38), .ref (G.2 u 39), .ref (G.2 u 40), .ref (G.2 u 41), .ref (G.2 u 42), .int v_212, .ref (G.2 u 44), .ref (G.2 u 45), .ref (G.2 u 46), .ref (G.2 u 47), .long y_213, .ref (G.2 u 49), .ref (G.2 u 50), .int v_214, .long y_215, .int v_216]) (ty0 := tyX12) G0 hw tyX12_ok nmX12 in_X12_clause_X12 rfl hr_350 (by decide) (by decide +kernel) rfl rfl rfl rfl (Nat.le_of_ble_eq_true rfl) rfl dX12_clause_228 (fun f_358 H_359 locs h_360 x_361 hw => ?_)
        have hX9 := hX9.same ((x_361 _ (hWF _ (by rw [wt12_9 hG Tu]; decide)).1 (wf_ne (wt12_9 hG Tu) Tu (by decide))).2)
        have hX10 := hX10.same ((x_361 _ (hWF _ (by rw [wt12_10 hG Tu]; decide)).1 (wf_ne (wt12_10 hG Tu) Tu (by decide))).2)
        have hX11 := hX11.same ((x_361 _ (hWF _ (by rw [wt12_11 hG Tu]; decide)).1 (wf_ne (wt12_11 hG Tu) Tu (by decide))).2)
        have hX12 := hX12.same ((x_361 _ (hWF _ (by rw [wt12_12 hG Tu]; decide)).1 (wf_ne (wt12_12 hG Tu) Tu (by decide))).2)
        have hV10 := (arz_kp ((x_361 _ (hWF _ (by rw [wt12_10 hG Tu]; decide)).1 (wf_ne (wt12_10 hG Tu) Tu (by decide))).2) _).trans hV10
        have hV11 := (arz_kp ((x_361 _ (hWF _ (by rw [wt12_11 hG Tu]; decide)).1 (wf_ne (wt12_11 hG Tu) Tu (by decide))).2) _).trans hV11
        have hMB := hMB.kp (kp_f (KP.refl.upd hWF x_361 Tu (Or.inl (by decide)) : KP G [13] false f_337 f_358) (wt12_1 hG Tu) (by decide) (by decide) (fun _ => by decide))
        have hFK := hFK.put hr_350 h_360 3 (by decide) rfl
        have cq_362 := cdv_own (f1 := f_337) (f2 := f_358) hG hWF Tu x_361 (by have z1 := mi_row hr_350 14 rfl; have z2 := mi_row h_360 14 rfl; omega)
        have hTR := hTR.own hG hWF Tu x_361 (by have z1 := mi_row hr_350 14 rfl; have z2 := mi_row h_360 14 rfl; omega) (by intro q; have z1 := mi_row hr_350 4 rfl; have z2 := mi_row h_360 4 rfl; omega)
        have kq_363 := clv_own (f1 := f_337) (f2 := f_358) hG hWF Tu x_361 (by have z1 := mi_row hr_350 14 rfl; have z2 := mi_row h_360 14 rfl; omega)
        have hKP := hKP.upd hWF x_361 Tu (Or.inl (by decide))
        have hWF := wf_upd hWF h_360 x_361 (by rw [Tu]; exact ⟨v_195, v_196, x_357, v_198, v_199, v_200, v_201, v_202, v_203, v_204, v_205, v_206, y_207, v_208, v_209, v_210, v_211, v_212, y_213, v_214, y_215, v_216, rfl, ⟨by omega, by omega⟩, ⟨by omega, by omega⟩, ⟨by omega, by omega⟩, ⟨by omega, by omega⟩, ⟨by omega, by omega⟩, ⟨by omega, by omega⟩, ⟨by omega, by omega⟩, ⟨by omega, by omega⟩, ⟨by omega, by omega⟩, ⟨by omega, by omega⟩, ⟨by omega, by omega⟩, ⟨by omega, by omega⟩⟩)
        have h_246 := h_246.ext x_361 (Ne.symm (py_ne_arr hr_350 h_246))
        have ha_236 := ha_236.ext x_361 (Ne.symm (py_ne_arr hr_350 ha_236))
        have tq_364 := mi_row h_360 2 rfl
        have tq_365 := mi_row h_360 3 rfl
        have bx_357 := wf_free x_357
        have tq_366 := mi_row h_360 4 rfl
        have bv_198 := wf_free v_198
        have tq_367 := mi_row h_360 5 rfl
        have bv_199 := wf_free v_199
        have tq_368 := mi_row h_360 14 rfl
        refine lv_aload_n G0.1 G0.2.1 dX12_clause_231 rfl (lv_at hl 1 rfl) ?_
        refine py_get (C := RX12) (T := TX12) (N := 54) (k := 11) (v := .ref (G.2 u 11)) G0 hw in_X12_clause_X12 rfl h_360 (by decide) (by decide +kernel) rfl dX12_clause_232 ?_
        refine lv_iload_n G0.1 G0.2.1 dX12_clause_235 rfl (lv_at hl 0 rfl) ?_
        refine lv_aload_n G0.1 G0.2.1 dX12_clause_236 rfl (lv_at hl 1 rfl) ?_
        refine py_get (C := RX12) (T := TX12) (N := 54) (k := 8) (v := .ref (G.2 u 8)) G0 hw in_X12_clause_X12 rfl h_360 (by decide) (by decide +kernel) rfl dX12_clause_237 ?_
        refine lv_aload_n G0.1 G0.2.1 dX12_clause_240 rfl (lv_at hl 1 rfl) ?_
        refine py_get (C := RX12) (T := TX12) (N := 54) (k := 14) (v := .int v_201) G0 hw in_X12_clause_X12 rfl h_360 (by decide) (by decide +kernel) rfl dX12_clause_241 ?_
        obtain ⟨g_369, ha_370, hi_371⟩ := wf_arr (n := 5) (lo := 0) (hi := 340) hWF (wt12_8 hG Tu) (by decide) (fun _ => rfl)
        have rg_372 : vp_in v_201 5 := ti_in (by omega) (by omega)
        refine py_iald G0 hw ha_370 rg_372 dX12_clause_244 ?_
        refine lv_topi (fun x_373 ex_373 => ?_)
        have bx_373 := ti_at hi_371 rg_372 ex_373
        have zx_373 := arz_ld ha_370 ex_373
        have hcxx_373 := cdv_ld h_360 rfl ha_370 ex_373
        have rg_374 : vp_in x_47 450 := ti_in (by omega) (by omega)
        refine py_iast G0 hw h_246 rg_374 dX12_clause_245 (fun f_375 H_376 locs h_377 x_378 hw => ?_)
        have hkw : KP G [46] false f_358 f_375 := KP.refl.upd hWF x_378 (wt12_11 hG Tu) (Or.inl (by decide))
        have hX9 := hX9.same ((x_378 _ (hWF _ (by rw [wt12_9 hG Tu]; decide)).1 (wf_ne (wt12_9 hG Tu) (wt12_11 hG Tu) (by decide))).2)
        have hX10 := hX10.same ((x_378 _ (hWF _ (by rw [wt12_10 hG Tu]; decide)).1 (wf_ne (wt12_10 hG Tu) (wt12_11 hG Tu) (by decide))).2)
        have hX12 := hX12.same ((x_378 _ (hWF _ (by rw [wt12_12 hG Tu]; decide)).1 (wf_ne (wt12_12 hG Tu) (wt12_11 hG Tu) (by decide))).2)
        have hV10 := (arz_kp ((x_378 _ (hWF _ (by rw [wt12_10 hG Tu]; decide)).1 (wf_ne (wt12_10 hG Tu) (wt12_11 hG Tu) (by decide))).2) _).trans hV10
        have hMB := hMB.kp (kp_f (KP.refl.upd hWF x_378 (wt12_11 hG Tu) (Or.inl (by decide)) : KP G [46] false f_358 f_375) (wt12_1 hG Tu) (by decide) (by decide) (fun _ => by decide))
        have hFK := hFK.same ((x_378 _ (hWF _ (by rw [Tu]; decide)).1 (wf_ne Tu (wt12_11 hG Tu) (by decide))).2)
        have cq_379 := cdv_kp (f := f_358) (f1 := f_375) (m := u) (x_378 _ (hWF _ (by rw [wt12_8 hG Tu]; decide)).1 (wf_ne (wt12_8 hG Tu) (wt12_11 hG Tu) (by decide))).2 (mi_kp (x_378 u (hWF u (by rw [Tu]; decide)).1 (wf_ne Tu (wt12_11 hG Tu) (by decide))).2 14)
        have kq_380 := clv_kp (f := f_358) (f1 := f_375) (m := u) (x_378 _ (hWF _ (by rw [wt12_9 hG Tu]; decide)).1 (wf_ne (wt12_9 hG Tu) (wt12_11 hG Tu) (by decide))).2 (mi_kp (x_378 u (hWF u (by rw [Tu]; decide)).1 (wf_ne Tu (wt12_11 hG Tu) (by decide))).2 14)
        have hTR := hTR.same (f2 := f_375) (x_378 _ (hWF _ (by rw [wt12_6 hG Tu]; decide)).1 (wf_ne (wt12_6 hG Tu) (wt12_11 hG Tu) (by decide))).2 (x_378 _ (hWF _ (by rw [wt12_7 hG Tu]; decide)).1 (wf_ne (wt12_7 hG Tu) (wt12_11 hG Tu) (by decide))).2 (x_378 _ (hWF _ (by rw [wt12_8 hG Tu]; decide)).1 (wf_ne (wt12_8 hG Tu) (wt12_11 hG Tu) (by decide))).2 (mi_kp (x_378 u (hWF u (by rw [Tu]; decide)).1 (wf_ne Tu (wt12_11 hG Tu) (by decide))).2 14) (fun q => by have hz := mi_kp (x_378 u (hWF u (by rw [Tu]; decide)).1 (wf_ne Tu (wt12_11 hG Tu) (by decide))).2 4; omega)
        have hKP := hKP.upd hWF x_378 (wt12_11 hG Tu) (Or.inl (by decide))
        have hi_381 := wf_inu (k := (x_47 : Int32).toNatClampNeg) (x := x_373) hi_250 (wf_free x_373).1 (wf_free x_373).2
        have hWF := wf_upd hWF h_377 x_378 (by rw [(wt12_11 hG Tu)]; exact ⟨_, rfl, hi_381⟩)
        have h_360 := h_360.ext x_378 (py_ne_arr h_360 h_246)
        have tq_382 := mi_row h_360 2 rfl
        have tq_383 := mi_row h_360 3 rfl
        have bx_357 := wf_free x_357
        have tq_384 := mi_row h_360 4 rfl
        have bv_198 := wf_free v_198
        have tq_385 := mi_row h_360 5 rfl
        have bv_199 := wf_free v_199
        have tq_386 := mi_row h_360 14 rfl
        have ha_236 := ha_236.ext x_378 (wf_ne (wt12_10 hG Tu) (wt12_11 hG Tu) (by decide))
        have ha_370 := ha_370.ext x_378 (wf_ne (wt12_8 hG Tu) (wt12_11 hG Tu) (by decide))
        have hX11 := hX11.up h_246 h_377 (by omega) (by omega)
        have hV11 : arz f_375 (G.2 u 11) (90 * mi f u 14 + clv f G u) = cdv f_375 G u := by rw [show (90 * mi f u 14 + clv f G u) = x_47.toInt by omega, (arz_up h_246 h_377 (by omega)).1]; omega
        have hTR1 := hTR
        have hTRw : mi f_375 u 4 = -1 := by have hz := mi_kp (x_378 u (hWF u (by rw [Tu]; decide)).1 (wf_ne Tu (wt12_11 hG Tu) (by decide))).2 4; omega
        have hcd2 := cdv_rng hG hWF Tu (by have hz := mi_kp (x_378 u (hWF u (by rw [Tu]; decide)).1 (wf_ne Tu (wt12_11 hG Tu) (by decide))).2 14; omega) (by have hz := mi_kp (x_378 u (hWF u (by rw [Tu]; decide)).1 (wf_ne Tu (wt12_11 hG Tu) (by decide))).2 14; omega)
        have hTR : TR f_375 f_375 G u (80) 0 0 := TR.refl (by have hz := mi_kp (x_378 u (hWF u (by rw [Tu]; decide)).1 (wf_ne Tu (wt12_11 hG Tu) (by decide))).2 14; omega) (by omega)
        refine lv_aload_n G0.1 G0.2.1 dX12_clause_246 rfl (lv_at hl 1 rfl) ?_
        refine py_callv hw (va_runV (As := []) (rest := []) G0 (rq_sum l E G hG L_336 f_375 H_376.size u gb nb (rs_sk gb nb (mi f_j183 u 3) + 1) 6 hWF Tu (show mi f_375 u 4 = -1 ∧ 0 ≤ mi f_375 u 5 ∧ mi f_375 u 5 ≤ 6 ∧ 0 ≤ mi f_375 u 3 ∧ mi f_375 u 3 ≤ mi f_375 u 2 ∧ cdv f_375 G u ≤ mi f_375 u 3 by omega) (show mi f_375 u 2 = nb ∧ mi f_375 u 3 = (rs_sk gb nb (mi f_j183 u 3) + 1) by omega) (show mi f_375 u 5 = 6 - ((6 : Nat) : Int) by omega) hMB) (cwV 0 G0.2.2.2.2 g_X12_clause_X12_sum_167 rfl rfl rfl (by decide +kernel) ⟨(Nat.le_of_ble_eq_true rfl), (Nat.le_of_ble_eq_true rfl)⟩) (py_preV hw (C := RX12) (T := TX12) (N := 54) rfl h_360) rfl rfl hl.1 rfl (lv_room (Nat.le_of_ble_eq_true rfl)) dX12_clause_247 ⟨(Nat.le_of_ble_eq_true rfl), (Nat.le_of_ble_eq_true rfl)⟩) (fun L_387 f_388 H_389 locs hp_390 hw => ?_)
        obtain ⟨en_392, en_393, en_394, en_395, en_396, hWF, kp_397, fk_398⟩ := hp_390
        have hX9 := hX9.same (kp_f kp_397 (wt12_9 hG Tu) (by decide) (by decide) (fun _ => by decide))
        have hX10 := hX10.same (kp_f kp_397 (wt12_10 hG Tu) (by decide) (by decide) (fun _ => by decide))
        have hX11 := hX11.same (kp_f kp_397 (wt12_11 hG Tu) (by decide) (by decide) (fun _ => by decide))
        have hX12 := hX12.same (kp_f kp_397 (wt12_12 hG Tu) (by decide) (by decide) (fun _ => by decide))
        have hV10 := (arz_kp (kp_f kp_397 (wt12_10 hG Tu) (by decide) (by decide) (fun _ => by decide)) _).trans hV10
        have hV11 := (arz_kp (kp_f kp_397 (wt12_11 hG Tu) (by decide) (by decide) (fun _ => by decide)) _).trans hV11
        have hMB := hMB.kp (kp_f kp_397 (wt12_1 hG Tu) (by decide) (by decide) (fun _ => by decide))
        have kq_399 := clv_k hG Tu kp_397 fk_398 (by decide)
        have hFK := hFK.trans fk_398 (by decide)
        have hKP := hKP.trans kp_397 (by decide) (by decide)
        obtain ⟨v_400, v_401, v_402, hr_403⟩ := fk_3_4_5 hWF Tu fk_398 h_360
        have tq_404 := mi_row hr_403 2 rfl
        have tq_405 := mi_row hr_403 3 rfl
        have bv_400 := wf_free v_400
        have tq_406 := mi_row hr_403 4 rfl
        have bv_401 := wf_free v_401
        have tq_407 := mi_row hr_403 5 rfl
        have bv_402 := wf_free v_402
        have tq_408 := mi_row hr_403 14 rfl
        have h_377 := kp_at kp_397 hWF (wt12_11 hG Tu) (by decide) (by decide) (by decide) h_377
        have ha_236 := kp_at kp_397 hWF (wt12_10 hG Tu) (by decide) (by decide) (by decide) ha_236
        have hTR : TR f_375 f_388 G u (80) 0 1 := hTR.trans (en_394.lift (b := 0) (by omega) (by omega) (by omega) (by omega)) (fun q => by omega)
        refine lv_aload_n G0.1 G0.2.1 dX12_clause_250 rfl (lv_at hl 1 rfl) ?_
        refine py_get (C := RX12) (T := TX12) (N := 54) (k := 12) (v := .ref (G.2 u 12)) G0 hw in_X12_clause_X12 rfl hr_403 (by decide) (by decide +kernel) rfl dX12_clause_251 ?_
        refine lv_iload_n G0.1 G0.2.1 dX12_clause_254 rfl (lv_at hl 0 rfl) ?_
        refine lv_aload_n G0.1 G0.2.1 dX12_clause_255 rfl (lv_at hl 1 rfl) ?_
        refine py_get (C := RX12) (T := TX12) (N := 54) (k := 8) (v := .ref (G.2 u 8)) G0 hw in_X12_clause_X12 rfl hr_403 (by decide) (by decide +kernel) rfl dX12_clause_256 ?_
        refine lv_aload_n G0.1 G0.2.1 dX12_clause_259 rfl (lv_at hl 1 rfl) ?_
        refine py_get (C := RX12) (T := TX12) (N := 54) (k := 14) (v := .int v_201) G0 hw in_X12_clause_X12 rfl hr_403 (by decide) (by decide +kernel) rfl dX12_clause_260 ?_
        obtain ⟨g_409, ha_410, hi_411⟩ := wf_arr (n := 5) (lo := 0) (hi := 340) hWF (wt12_8 hG Tu) (by decide) (fun _ => rfl)
        have rg_412 : vp_in v_201 5 := ti_in (by omega) (by omega)
        refine py_iald G0 hw ha_410 rg_412 dX12_clause_263 ?_
        refine lv_topi (fun x_413 ex_413 => ?_)
        have bx_413 := ti_at hi_411 rg_412 ex_413
        have zx_413 := arz_ld ha_410 ex_413
        have hcxx_413 := cdv_ld hr_403 rfl ha_410 ex_413
        obtain ⟨g_414, ha_415, hi_416⟩ := wf_arr (n := 450) (lo := (-2147483648)) (hi := 2147483647) hWF (wt12_12 hG Tu) (by decide) (fun _ => rfl)
        have rg_417 : vp_in x_47 450 := ti_in (by omega) (by omega)
        refine py_iast G0 hw ha_415 rg_417 dX12_clause_264 (fun f_418 H_419 locs h_420 x_421 hw => ?_)
        have hkw : KP G [47] false f_388 f_418 := KP.refl.upd hWF x_421 (wt12_12 hG Tu) (Or.inl (by decide))
        have hX9 := hX9.same ((x_421 _ (hWF _ (by rw [wt12_9 hG Tu]; decide)).1 (wf_ne (wt12_9 hG Tu) (wt12_12 hG Tu) (by decide))).2)
        have hX10 := hX10.same ((x_421 _ (hWF _ (by rw [wt12_10 hG Tu]; decide)).1 (wf_ne (wt12_10 hG Tu) (wt12_12 hG Tu) (by decide))).2)
        have hX11 := hX11.same ((x_421 _ (hWF _ (by rw [wt12_11 hG Tu]; decide)).1 (wf_ne (wt12_11 hG Tu) (wt12_12 hG Tu) (by decide))).2)
        have hV10 := (arz_kp ((x_421 _ (hWF _ (by rw [wt12_10 hG Tu]; decide)).1 (wf_ne (wt12_10 hG Tu) (wt12_12 hG Tu) (by decide))).2) _).trans hV10
        have hV11 := (arz_kp ((x_421 _ (hWF _ (by rw [wt12_11 hG Tu]; decide)).1 (wf_ne (wt12_11 hG Tu) (wt12_12 hG Tu) (by decide))).2) _).trans hV11
        have hMB := hMB.kp (kp_f (KP.refl.upd hWF x_421 (wt12_12 hG Tu) (Or.inl (by decide)) : KP G [47] false f_388 f_418) (wt12_1 hG Tu) (by decide) (by decide) (fun _ => by decide))
        have hFK := hFK.same ((x_421 _ (hWF _ (by rw [Tu]; decide)).1 (wf_ne Tu (wt12_12 hG Tu) (by decide))).2)
        have cq_422 := cdv_kp (f := f_388) (f1 := f_418) (m := u) (x_421 _ (hWF _ (by rw [wt12_8 hG Tu]; decide)).1 (wf_ne (wt12_8 hG Tu) (wt12_12 hG Tu) (by decide))).2 (mi_kp (x_421 u (hWF u (by rw [Tu]; decide)).1 (wf_ne Tu (wt12_12 hG Tu) (by decide))).2 14)
        have kq_423 := clv_kp (f := f_388) (f1 := f_418) (m := u) (x_421 _ (hWF _ (by rw [wt12_9 hG Tu]; decide)).1 (wf_ne (wt12_9 hG Tu) (wt12_12 hG Tu) (by decide))).2 (mi_kp (x_421 u (hWF u (by rw [Tu]; decide)).1 (wf_ne Tu (wt12_12 hG Tu) (by decide))).2 14)
        have hTR := hTR.same (f2 := f_418) (x_421 _ (hWF _ (by rw [wt12_6 hG Tu]; decide)).1 (wf_ne (wt12_6 hG Tu) (wt12_12 hG Tu) (by decide))).2 (x_421 _ (hWF _ (by rw [wt12_7 hG Tu]; decide)).1 (wf_ne (wt12_7 hG Tu) (wt12_12 hG Tu) (by decide))).2 (x_421 _ (hWF _ (by rw [wt12_8 hG Tu]; decide)).1 (wf_ne (wt12_8 hG Tu) (wt12_12 hG Tu) (by decide))).2 (mi_kp (x_421 u (hWF u (by rw [Tu]; decide)).1 (wf_ne Tu (wt12_12 hG Tu) (by decide))).2 14) (fun q => by have hz := mi_kp (x_421 u (hWF u (by rw [Tu]; decide)).1 (wf_ne Tu (wt12_12 hG Tu) (by decide))).2 4; omega)
        have hKP := hKP.upd hWF x_421 (wt12_12 hG Tu) (Or.inl (by decide))
        have hi_424 := wf_inu (k := (x_47 : Int32).toNatClampNeg) (x := x_413) hi_416 (wf_free x_413).1 (wf_free x_413).2
        have hWF := wf_upd hWF h_420 x_421 (by rw [(wt12_12 hG Tu)]; exact ⟨_, rfl, hi_424⟩)
        have hr_403 := hr_403.ext x_421 (py_ne_arr hr_403 ha_415)
        have tq_425 := mi_row hr_403 2 rfl
        have tq_426 := mi_row hr_403 3 rfl
        have bv_400 := wf_free v_400
        have tq_427 := mi_row hr_403 4 rfl
        have bv_401 := wf_free v_401
        have tq_428 := mi_row hr_403 5 rfl
        have bv_402 := wf_free v_402
        have tq_429 := mi_row hr_403 14 rfl
        have h_377 := h_377.ext x_421 (wf_ne (wt12_11 hG Tu) (wt12_12 hG Tu) (by decide))
        have ha_236 := ha_236.ext x_421 (wf_ne (wt12_10 hG Tu) (wt12_12 hG Tu) (by decide))
        have ha_410 := ha_410.ext x_421 (wf_ne (wt12_8 hG Tu) (wt12_12 hG Tu) (by decide))
        have hX12 := hX12.up ha_415 h_420 (by omega) (by omega)
        have hV12 : arz f_418 (G.2 u 12) (90 * mi f u 14 + clv f G u) = cdv f_418 G u := by rw [show (90 * mi f u 14 + clv f G u) = x_47.toInt by omega, (arz_up ha_415 h_420 (by omega)).1]; omega
        refine lv_aload_n G0.1 G0.2.1 dX12_clause_265 rfl (lv_at hl 1 rfl) ?_
        refine py_get (C := RX12) (T := TX12) (N := 54) (k := 9) (v := .ref (G.2 u 9)) G0 hw in_X12_clause_X12 rfl hr_403 (by decide) (by decide +kernel) rfl dX12_clause_266 ?_
        refine lv_aload_n G0.1 G0.2.1 dX12_clause_269 rfl (lv_at hl 1 rfl) ?_
        refine py_get (C := RX12) (T := TX12) (N := 54) (k := 14) (v := .int v_201) G0 hw in_X12_clause_X12 rfl hr_403 (by decide) (by decide +kernel) rfl dX12_clause_270 ?_
        refine lv_dup2_11 G0.1 G0.2.1 dX12_clause_273 rfl rfl ?_
        obtain ⟨g_430, ha_431, hi_432⟩ := wf_arr (n := 5) (lo := 0) (hi := 90) hWF (wt12_9 hG Tu) (by decide) (fun _ => rfl)
        have rg_433 : vp_in v_201 5 := ti_in (by omega) (by omega)
        refine py_iald G0 hw ha_431 rg_433 dX12_clause_274 ?_
        refine lv_topi (fun x_434 ex_434 => ?_)
        have bx_434 := ti_at hi_432 rg_433 ex_434
        have zx_434 := arz_ld ha_431 ex_434
        have hkxx_434 := clv_ld hr_403 rfl ha_431 ex_434
        refine lv_iconst (v := 1) G0.1 G0.2.1 dX12_clause_275 (by decide) ?_
        refine lv_iadd G0.1 G0.2.1 dX12_clause_276 ?_
        refine lv_topi (fun x_435 ex_435 => ?_)
        first | have tx_435 := ti_add ex_435 (by omega -splitDisjunctions) (by omega -splitDisjunctions) | skip
        have rg_436 : vp_in v_201 5 := ti_in (by omega) (by omega)
        refine py_iast G0 hw ha_431 rg_436 dX12_clause_277 (fun f_437 H_438 locs h_439 x_440 hw => ?_)
        have hkw : KP G [44] false f_418 f_437 := KP.refl.upd hWF x_440 (wt12_9 hG Tu) (Or.inl (by decide))
        have hX10 := hX10.same ((x_440 _ (hWF _ (by rw [wt12_10 hG Tu]; decide)).1 (wf_ne (wt12_10 hG Tu) (wt12_9 hG Tu) (by decide))).2)
        have hX11 := hX11.same ((x_440 _ (hWF _ (by rw [wt12_11 hG Tu]; decide)).1 (wf_ne (wt12_11 hG Tu) (wt12_9 hG Tu) (by decide))).2)
        have hX12 := hX12.same ((x_440 _ (hWF _ (by rw [wt12_12 hG Tu]; decide)).1 (wf_ne (wt12_12 hG Tu) (wt12_9 hG Tu) (by decide))).2)
        have hV10 := (arz_kp ((x_440 _ (hWF _ (by rw [wt12_10 hG Tu]; decide)).1 (wf_ne (wt12_10 hG Tu) (wt12_9 hG Tu) (by decide))).2) _).trans hV10
        have hV11 := (arz_kp ((x_440 _ (hWF _ (by rw [wt12_11 hG Tu]; decide)).1 (wf_ne (wt12_11 hG Tu) (wt12_9 hG Tu) (by decide))).2) _).trans hV11
        have hV12 := (arz_kp ((x_440 _ (hWF _ (by rw [wt12_12 hG Tu]; decide)).1 (wf_ne (wt12_12 hG Tu) (wt12_9 hG Tu) (by decide))).2) _).trans hV12
        have hMB := hMB.kp (kp_f (KP.refl.upd hWF x_440 (wt12_9 hG Tu) (Or.inl (by decide)) : KP G [44] false f_418 f_437) (wt12_1 hG Tu) (by decide) (by decide) (fun _ => by decide))
        have hFK := hFK.same ((x_440 _ (hWF _ (by rw [Tu]; decide)).1 (wf_ne Tu (wt12_9 hG Tu) (by decide))).2)
        have cq_441 := cdv_kp (f := f_418) (f1 := f_437) (m := u) (x_440 _ (hWF _ (by rw [wt12_8 hG Tu]; decide)).1 (wf_ne (wt12_8 hG Tu) (wt12_9 hG Tu) (by decide))).2 (mi_kp (x_440 u (hWF u (by rw [Tu]; decide)).1 (wf_ne Tu (wt12_9 hG Tu) (by decide))).2 14)
        have hTR := hTR.same (f2 := f_437) (x_440 _ (hWF _ (by rw [wt12_6 hG Tu]; decide)).1 (wf_ne (wt12_6 hG Tu) (wt12_9 hG Tu) (by decide))).2 (x_440 _ (hWF _ (by rw [wt12_7 hG Tu]; decide)).1 (wf_ne (wt12_7 hG Tu) (wt12_9 hG Tu) (by decide))).2 (x_440 _ (hWF _ (by rw [wt12_8 hG Tu]; decide)).1 (wf_ne (wt12_8 hG Tu) (wt12_9 hG Tu) (by decide))).2 (mi_kp (x_440 u (hWF u (by rw [Tu]; decide)).1 (wf_ne Tu (wt12_9 hG Tu) (by decide))).2 14) (fun q => by have hz := mi_kp (x_440 u (hWF u (by rw [Tu]; decide)).1 (wf_ne Tu (wt12_9 hG Tu) (by decide))).2 4; omega)
        have hKP := hKP.upd hWF x_440 (wt12_9 hG Tu) (Or.inl (by decide))
        have hi_442 := wf_inu (k := (v_201 : Int32).toNatClampNeg) (x := x_435) hi_432 (by omega) (by omega)
        have hWF := wf_upd hWF h_439 x_440 (by rw [(wt12_9 hG Tu)]; exact ⟨_, rfl, hi_442⟩)
        have hr_403 := hr_403.ext x_440 (py_ne_arr hr_403 ha_431)
        have tq_443 := mi_row hr_403 2 rfl
        have tq_444 := mi_row hr_403 3 rfl
        have bv_400 := wf_free v_400
        have tq_445 := mi_row hr_403 4 rfl
        have bv_401 := wf_free v_401
        have tq_446 := mi_row hr_403 5 rfl
        have bv_402 := wf_free v_402
        have tq_447 := mi_row hr_403 14 rfl
        have h_420 := h_420.ext x_440 (wf_ne (wt12_12 hG Tu) (wt12_9 hG Tu) (by decide))
        have h_377 := h_377.ext x_440 (wf_ne (wt12_11 hG Tu) (wt12_9 hG Tu) (by decide))
        have ha_236 := ha_236.ext x_440 (wf_ne (wt12_10 hG Tu) (wt12_9 hG Tu) (by decide))
        have ha_410 := ha_410.ext x_440 (wf_ne (wt12_8 hG Tu) (wt12_9 hG Tu) (by decide))
        have hX9 := hX9.up ha_431 h_439 (by omega) (by omega)
        have hkn : clv f_437 G u = x_435.toInt := by unfold clv; rw [mi_row hr_403 14 rfl]; exact (arz_up ha_431 h_439 (by omega)).1
        exact py_vret G0 hr hlk hw ⟨(by first | omega | (intro q; omega)), (by first | omega | (intro q; omega)), (by first | omega | (intro q; omega)), ⟨(hTR1.tp.trans hTR.tp), hX10, hX11, hX12, hX9, by omega⟩, (fun hw => by first | exact absurd hw (by omega) | exact ⟨co_b hTR1 hTR hTRw hw (by omega) (by omega) (by omega) (by omega), by omega⟩), (by intro hw; have hz := en_395 (by omega); have hE : (rs_ca gb nb pb) = (rs_sm gb nb 6 (rs_sk gb nb (mi f_j183 u 3) + 1)) := (jv3 (by omega) (by omega)).trans (rs_tl_1 (by omega)); rw [hE]; exact ⟨hz.1, by omega⟩), (by intro hw; have hz := en_396 (by omega); have hE : (rs_ca gb nb pb) = (rs_sm gb nb 6 (rs_sk gb nb (mi f_j183 u 3) + 1)) := (jv3 (by omega) (by omega)).trans (rs_tl_1 (by omega)); rw [hE]; exact ⟨hz.1, by omega⟩), hWF, hKP, hFK⟩ dX12_clause_278
      · skip
        have tc_356 := ti_ne c_356
        refine lv_aload_n G0.1 G0.2.1 dX12_clause_216 rfl (lv_at hl 1 rfl) ?_
        refine py_callv hw (va_runV (As := []) (rest := []) G0 (c_X12_bad l E G L_336 f_337 H_338.size u hG hWF Tu (show 0 ≤ mi f_337 u 3 by omega)) (cwV 0 G0.2.2.2.2 g_X12_clause_X12_bad_143 rfl rfl rfl (by decide +kernel) ⟨(Nat.le_of_ble_eq_true rfl), (Nat.le_of_ble_eq_true rfl)⟩) (py_preV hw (C := RX12) (T := TX12) (N := 54) rfl hr_350) rfl rfl hl.1 rfl (lv_room (Nat.le_of_ble_eq_true rfl)) dX12_clause_217 ⟨(Nat.le_of_ble_eq_true rfl), (Nat.le_of_ble_eq_true rfl)⟩) (fun L_448 f_449 H_450 locs hp_451 hw => ?_)
        obtain ⟨en_453, en_454, en_455, hWF, kp_456, fk_457⟩ := hp_451
        have hX9 := hX9.same (kp_f kp_456 (wt12_9 hG Tu) (by decide) (by decide) (fun _ => by decide))
        have hX10 := hX10.same (kp_f kp_456 (wt12_10 hG Tu) (by decide) (by decide) (fun _ => by decide))
        have hX11 := hX11.same (kp_f kp_456 (wt12_11 hG Tu) (by decide) (by decide) (fun _ => by decide))
        have hX12 := hX12.same (kp_f kp_456 (wt12_12 hG Tu) (by decide) (by decide) (fun _ => by decide))
        have hV10 := (arz_kp (kp_f kp_456 (wt12_10 hG Tu) (by decide) (by decide) (fun _ => by decide)) _).trans hV10
        have hV11 := (arz_kp (kp_f kp_456 (wt12_11 hG Tu) (by decide) (by decide) (fun _ => by decide)) _).trans hV11
        have hMB := hMB.kp (kp_f kp_456 (wt12_1 hG Tu) (by decide) (by decide) (fun _ => by decide))
        have cq_458 := cdv_k hG Tu kp_456 fk_457 (by decide)
        have kq_459 := clv_k hG Tu kp_456 fk_457 (by decide)
        have hFK := hFK.trans fk_457 (by decide)
        have hKP := hKP.trans kp_456 (by decide) (by decide)
        obtain ⟨v_460, hr_461⟩ := fk_4 hWF Tu fk_457 hr_350
        have tq_462 := mi_row hr_461 2 rfl
        have tq_463 := mi_row hr_461 3 rfl
        have bv_349 := wf_free v_349
        have tq_464 := mi_row hr_461 4 rfl
        have bv_460 := wf_free v_460
        have tq_465 := mi_row hr_461 5 rfl
        have bv_199 := wf_free v_199
        have tq_466 := mi_row hr_461 14 rfl
        have h_246 := kp_at kp_456 hWF (wt12_11 hG Tu) (by decide) (by decide) (by decide) h_246
        have ha_236 := kp_at kp_456 hWF (wt12_10 hG Tu) (by decide) (by decide) (by decide) ha_236
        have hTR := hTR.kp hG Tu kp_456 fk_457 (by decide) (fun q => by omega)
        exact py_vret G0 hr hlk hw ⟨(by first | omega | (intro q; omega)), (by first | omega | (intro q; omega)), (by first | omega | (intro q; omega)), ⟨hTR.tp, hX10, hX11, hX12, hX9, by omega⟩, (fun hw => by first | exact absurd hw (by omega) | exact ⟨co_a hTR hw (by omega) (by omega) (by omega) (by omega), by omega⟩), (fun hw => absurd hw (by omega)), (by intro hw; have hE : (rs_ca gb nb pb) = (0, rs_sk gb nb (mi f_j183 u 3)) := (jv3 (by omega) (by omega)).trans (rs_tl_0 (by omega)); rw [hE]; exact ⟨rfl, (show mi f_449 u 4 = rs_sk gb nb (mi f_j183 u 3) by omega)⟩), hWF, hKP, hFK⟩ dX12_clause_220
