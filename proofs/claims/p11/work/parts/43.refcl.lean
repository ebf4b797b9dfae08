theorem dX12_clause_0 : decode cX12_clause 0 = .ok (.bipush 90, 2) := by decide +kernel
theorem dX12_clause_2 : decode cX12_clause 2 = .ok (.aload_n 0, 1) := by decide +kernel
theorem dX12_clause_3 : decode cX12_clause 3 = .ok (.getfield 137, 3) := by decide +kernel
theorem dX12_clause_6 : decode cX12_clause 6 = .ok (.imul, 1) := by decide +kernel
theorem dX12_clause_7 : decode cX12_clause 7 = .ok (.aload_n 0, 1) := by decide +kernel
theorem dX12_clause_8 : decode cX12_clause 8 = .ok (.getfield 22, 3) := by decide +kernel
theorem dX12_clause_11 : decode cX12_clause 11 = .ok (.aload_n 0, 1) := by decide +kernel
theorem dX12_clause_12 : decode cX12_clause 12 = .ok (.getfield 137, 3) := by decide +kernel
theorem dX12_clause_15 : decode cX12_clause 15 = .ok (.iaload, 1) := by decide +kernel
theorem dX12_clause_16 : decode cX12_clause 16 = .ok (.iadd, 1) := by decide +kernel
theorem dX12_clause_17 : decode cX12_clause 17 = .ok (.istore_n 1, 1) := by decide +kernel
theorem dX12_clause_18 : decode cX12_clause 18 = .ok (.aload_n 0, 1) := by decide +kernel
theorem dX12_clause_19 : decode cX12_clause 19 = .ok (.getfield 134, 3) := by decide +kernel
theorem dX12_clause_22 : decode cX12_clause 22 = .ok (.iconst (-1), 1) := by decide +kernel
theorem dX12_clause_23 : decode cX12_clause 23 = .ok (.if_icmp .ne 16, 3) := by decide +kernel
theorem dX12_clause_26 : decode cX12_clause 26 = .ok (.aload_n 0, 1) := by decide +kernel
theorem dX12_clause_27 : decode cX12_clause 27 = .ok (.invokevirtual 146, 3) := by decide +kernel
theorem dX12_clause_30 : decode cX12_clause 30 = .ok (.bipush 121, 2) := by decide +kernel
theorem dX12_clause_32 : decode cX12_clause 32 = .ok (.if_icmp .eq 7, 3) := by decide +kernel
theorem dX12_clause_35 : decode cX12_clause 35 = .ok (.aload_n 0, 1) := by decide +kernel
theorem dX12_clause_36 : decode cX12_clause 36 = .ok (.invokevirtual 143, 3) := by decide +kernel
theorem dX12_clause_39 : decode cX12_clause 39 = .ok (.aload_n 0, 1) := by decide +kernel
theorem dX12_clause_40 : decode cX12_clause 40 = .ok (.dup, 1) := by decide +kernel
theorem dX12_clause_41 : decode cX12_clause 41 = .ok (.getfield 127, 3) := by decide +kernel
theorem dX12_clause_44 : decode cX12_clause 44 = .ok (.iconst 1, 1) := by decide +kernel
theorem dX12_clause_45 : decode cX12_clause 45 = .ok (.iadd, 1) := by decide +kernel
theorem dX12_clause_46 : decode cX12_clause 46 = .ok (.putfield 127, 3) := by decide +kernel
theorem dX12_clause_49 : decode cX12_clause 49 = .ok (.aload_n 0, 1) := by decide +kernel
theorem dX12_clause_50 : decode cX12_clause 50 = .ok (.getfield 134, 3) := by decide +kernel
theorem dX12_clause_53 : decode cX12_clause 53 = .ok (.iconst (-1), 1) := by decide +kernel
theorem dX12_clause_54 : decode cX12_clause 54 = .ok (.if_icmp .ne 16, 3) := by decide +kernel
theorem dX12_clause_57 : decode cX12_clause 57 = .ok (.aload_n 0, 1) := by decide +kernel
theorem dX12_clause_58 : decode cX12_clause 58 = .ok (.invokevirtual 146, 3) := by decide +kernel
theorem dX12_clause_61 : decode cX12_clause 61 = .ok (.bipush 58, 2) := by decide +kernel
theorem dX12_clause_63 : decode cX12_clause 63 = .ok (.if_icmp .eq 7, 3) := by decide +kernel
theorem dX12_clause_66 : decode cX12_clause 66 = .ok (.aload_n 0, 1) := by decide +kernel
theorem dX12_clause_67 : decode cX12_clause 67 = .ok (.invokevirtual 143, 3) := by decide +kernel
theorem dX12_clause_70 : decode cX12_clause 70 = .ok (.aload_n 0, 1) := by decide +kernel
theorem dX12_clause_71 : decode cX12_clause 71 = .ok (.dup, 1) := by decide +kernel
theorem dX12_clause_72 : decode cX12_clause 72 = .ok (.getfield 127, 3) := by decide +kernel
theorem dX12_clause_75 : decode cX12_clause 75 = .ok (.iconst 1, 1) := by decide +kernel
theorem dX12_clause_76 : decode cX12_clause 76 = .ok (.iadd, 1) := by decide +kernel
theorem dX12_clause_77 : decode cX12_clause 77 = .ok (.putfield 127, 3) := by decide +kernel
theorem dX12_clause_80 : decode cX12_clause 80 = .ok (.aload_n 0, 1) := by decide +kernel
theorem dX12_clause_81 : decode cX12_clause 81 = .ok (.getfield 134, 3) := by decide +kernel
theorem dX12_clause_84 : decode cX12_clause 84 = .ok (.iconst (-1), 1) := by decide +kernel
theorem dX12_clause_85 : decode cX12_clause 85 = .ok (.if_icmp .eq 4, 3) := by decide +kernel
theorem dX12_clause_88 : decode cX12_clause 88 = .ok (.return_, 1) := by decide +kernel
theorem dX12_clause_89 : decode cX12_clause 89 = .ok (.aload_n 0, 1) := by decide +kernel
theorem dX12_clause_90 : decode cX12_clause 90 = .ok (.getfield 25, 3) := by decide +kernel
theorem dX12_clause_93 : decode cX12_clause 93 = .ok (.iload_n 1, 1) := by decide +kernel
theorem dX12_clause_94 : decode cX12_clause 94 = .ok (.aload_n 0, 1) := by decide +kernel
theorem dX12_clause_95 : decode cX12_clause 95 = .ok (.getfield 19, 3) := by decide +kernel
theorem dX12_clause_98 : decode cX12_clause 98 = .ok (.aload_n 0, 1) := by decide +kernel
theorem dX12_clause_99 : decode cX12_clause 99 = .ok (.getfield 137, 3) := by decide +kernel
theorem dX12_clause_102 : decode cX12_clause 102 = .ok (.iaload, 1) := by decide +kernel
theorem dX12_clause_103 : decode cX12_clause 103 = .ok (.iastore, 1) := by decide +kernel
theorem dX12_clause_104 : decode cX12_clause 104 = .ok (.aload_n 0, 1) := by decide +kernel
theorem dX12_clause_105 : decode cX12_clause 105 = .ok (.invokevirtual 146, 3) := by decide +kernel
theorem dX12_clause_108 : decode cX12_clause 108 = .ok (.bipush 33, 2) := by decide +kernel
theorem dX12_clause_110 : decode cX12_clause 110 = .ok (.if_icmp .eq 12, 3) := by decide +kernel
theorem dX12_clause_113 : decode cX12_clause 113 = .ok (.aload_n 0, 1) := by decide +kernel
theorem dX12_clause_114 : decode cX12_clause 114 = .ok (.invokevirtual 146, 3) := by decide +kernel
theorem dX12_clause_117 : decode cX12_clause 117 = .ok (.bipush 40, 2) := by decide +kernel
theorem dX12_clause_119 : decode cX12_clause 119 = .ok (.if_icmp .ne 7, 3) := by decide +kernel
theorem dX12_clause_122 : decode cX12_clause 122 = .ok (.iconst 1, 1) := by decide +kernel
theorem dX12_clause_123 : decode cX12_clause 123 = .ok (.goto 4, 3) := by decide +kernel
theorem dX12_clause_126 : decode cX12_clause 126 = .ok (.iconst 0, 1) := by decide +kernel
theorem dX12_clause_127 : decode cX12_clause 127 = .ok (.istore_n 2, 1) := by decide +kernel
theorem dX12_clause_128 : decode cX12_clause 128 = .ok (.iload_n 2, 1) := by decide +kernel
theorem dX12_clause_129 : decode cX12_clause 129 = .ok (.ifCond .eq 10, 3) := by decide +kernel
theorem dX12_clause_132 : decode cX12_clause 132 = .ok (.aload_n 0, 1) := by decide +kernel
theorem dX12_clause_133 : decode cX12_clause 133 = .ok (.invokevirtual 186, 3) := by decide +kernel
theorem dX12_clause_136 : decode cX12_clause 136 = .ok (.goto 47, 3) := by decide +kernel
theorem dX12_clause_139 : decode cX12_clause 139 = .ok (.aload_n 0, 1) := by decide +kernel
theorem dX12_clause_140 : decode cX12_clause 140 = .ok (.invokevirtual 167, 3) := by decide +kernel
theorem dX12_clause_143 : decode cX12_clause 143 = .ok (.aload_n 0, 1) := by decide +kernel
theorem dX12_clause_144 : decode cX12_clause 144 = .ok (.getfield 134, 3) := by decide +kernel
theorem dX12_clause_147 : decode cX12_clause 147 = .ok (.iconst (-1), 1) := by decide +kernel
theorem dX12_clause_148 : decode cX12_clause 148 = .ok (.if_icmp .ne 17, 3) := by decide +kernel
theorem dX12_clause_151 : decode cX12_clause 151 = .ok (.aload_n 0, 1) := by decide +kernel
theorem dX12_clause_152 : decode cX12_clause 152 = .ok (.invokevirtual 146, 3) := by decide +kernel
theorem dX12_clause_155 : decode cX12_clause 155 = .ok (.invokestatic 180, 3) := by decide +kernel
theorem dX12_clause_158 : decode cX12_clause 158 = .ok (.ifCond .eq 7, 3) := by decide +kernel
theorem dX12_clause_161 : decode cX12_clause 161 = .ok (.iconst 1, 1) := by decide +kernel
theorem dX12_clause_162 : decode cX12_clause 162 = .ok (.goto 4, 3) := by decide +kernel
theorem dX12_clause_165 : decode cX12_clause 165 = .ok (.iconst 0, 1) := by decide +kernel
theorem dX12_clause_166 : decode cX12_clause 166 = .ok (.istore_n 2, 1) := by decide +kernel
theorem dX12_clause_167 : decode cX12_clause 167 = .ok (.iload_n 2, 1) := by decide +kernel
theorem dX12_clause_168 : decode cX12_clause 168 = .ok (.ifCond .eq 15, 3) := by decide +kernel
theorem dX12_clause_171 : decode cX12_clause 171 = .ok (.aload_n 0, 1) := by decide +kernel
theorem dX12_clause_172 : decode cX12_clause 172 = .ok (.invokevirtual 189, 3) := by decide +kernel
theorem dX12_clause_175 : decode cX12_clause 175 = .ok (.aload_n 0, 1) := by decide +kernel
theorem dX12_clause_176 : decode cX12_clause 176 = .ok (.invokevirtual 192, 3) := by decide +kernel
theorem dX12_clause_179 : decode cX12_clause 179 = .ok (.aload_n 0, 1) := by decide +kernel
theorem dX12_clause_180 : decode cX12_clause 180 = .ok (.invokevirtual 195, 3) := by decide +kernel
theorem dX12_clause_183 : decode cX12_clause 183 = .ok (.aload_n 0, 1) := by decide +kernel
theorem dX12_clause_184 : decode cX12_clause 184 = .ok (.getfield 28, 3) := by decide +kernel
theorem dX12_clause_187 : decode cX12_clause 187 = .ok (.iload_n 1, 1) := by decide +kernel
theorem dX12_clause_188 : decode cX12_clause 188 = .ok (.aload_n 0, 1) := by decide +kernel
theorem dX12_clause_189 : decode cX12_clause 189 = .ok (.getfield 25, 3) := by decide +kernel
theorem dX12_clause_192 : decode cX12_clause 192 = .ok (.iload_n 1, 1) := by decide +kernel
theorem dX12_clause_193 : decode cX12_clause 193 = .ok (.iaload, 1) := by decide +kernel
theorem dX12_clause_194 : decode cX12_clause 194 = .ok (.iastore, 1) := by decide +kernel
theorem dX12_clause_195 : decode cX12_clause 195 = .ok (.iload_n 2, 1) := by decide +kernel
theorem dX12_clause_196 : decode cX12_clause 196 = .ok (.ifCond .eq 54, 3) := by decide +kernel
theorem dX12_clause_199 : decode cX12_clause 199 = .ok (.aload_n 0, 1) := by decide +kernel
theorem dX12_clause_200 : decode cX12_clause 200 = .ok (.getfield 134, 3) := by decide +kernel
theorem dX12_clause_203 : decode cX12_clause 203 = .ok (.iconst (-1), 1) := by decide +kernel
theorem dX12_clause_204 : decode cX12_clause 204 = .ok (.if_icmp .ne 46, 3) := by decide +kernel
theorem dX12_clause_207 : decode cX12_clause 207 = .ok (.aload_n 0, 1) := by decide +kernel
theorem dX12_clause_208 : decode cX12_clause 208 = .ok (.invokevirtual 146, 3) := by decide +kernel
theorem dX12_clause_211 : decode cX12_clause 211 = .ok (.bipush 63, 2) := by decide +kernel
theorem dX12_clause_213 : decode cX12_clause 213 = .ok (.if_icmp .eq 8, 3) := by decide +kernel
theorem dX12_clause_216 : decode cX12_clause 216 = .ok (.aload_n 0, 1) := by decide +kernel
theorem dX12_clause_217 : decode cX12_clause 217 = .ok (.invokevirtual 143, 3) := by decide +kernel
theorem dX12_clause_220 : decode cX12_clause 220 = .ok (.return_, 1) := by decide +kernel
theorem dX12_clause_221 : decode cX12_clause 221 = .ok (.aload_n 0, 1) := by decide +kernel
theorem dX12_clause_222 : decode cX12_clause 222 = .ok (.dup, 1) := by decide +kernel
theorem dX12_clause_223 : decode cX12_clause 223 = .ok (.getfield 127, 3) := by decide +kernel
theorem dX12_clause_226 : decode cX12_clause 226 = .ok (.iconst 1, 1) := by decide +kernel
theorem dX12_clause_227 : decode cX12_clause 227 = .ok (.iadd, 1) := by decide +kernel
theorem dX12_clause_228 : decode cX12_clause 228 = .ok (.putfield 127, 3) := by decide +kernel
theorem dX12_clause_231 : decode cX12_clause 231 = .ok (.aload_n 0, 1) := by decide +kernel
theorem dX12_clause_232 : decode cX12_clause 232 = .ok (.getfield 28, 3) := by decide +kernel
theorem dX12_clause_235 : decode cX12_clause 235 = .ok (.iload_n 1, 1) := by decide +kernel
theorem dX12_clause_236 : decode cX12_clause 236 = .ok (.aload_n 0, 1) := by decide +kernel
theorem dX12_clause_237 : decode cX12_clause 237 = .ok (.getfield 19, 3) := by decide +kernel
theorem dX12_clause_240 : decode cX12_clause 240 = .ok (.aload_n 0, 1) := by decide +kernel
theorem dX12_clause_241 : decode cX12_clause 241 = .ok (.getfield 137, 3) := by decide +kernel
theorem dX12_clause_244 : decode cX12_clause 244 = .ok (.iaload, 1) := by decide +kernel
theorem dX12_clause_245 : decode cX12_clause 245 = .ok (.iastore, 1) := by decide +kernel
theorem dX12_clause_246 : decode cX12_clause 246 = .ok (.aload_n 0, 1) := by decide +kernel
theorem dX12_clause_247 : decode cX12_clause 247 = .ok (.invokevirtual 167, 3) := by decide +kernel
theorem dX12_clause_250 : decode cX12_clause 250 = .ok (.aload_n 0, 1) := by decide +kernel
theorem dX12_clause_251 : decode cX12_clause 251 = .ok (.getfield 31, 3) := by decide +kernel
theorem dX12_clause_254 : decode cX12_clause 254 = .ok (.iload_n 1, 1) := by decide +kernel
theorem dX12_clause_255 : decode cX12_clause 255 = .ok (.aload_n 0, 1) := by decide +kernel
theorem dX12_clause_256 : decode cX12_clause 256 = .ok (.getfield 19, 3) := by decide +kernel
theorem dX12_clause_259 : decode cX12_clause 259 = .ok (.aload_n 0, 1) := by decide +kernel
theorem dX12_clause_260 : decode cX12_clause 260 = .ok (.getfield 137, 3) := by decide +kernel
theorem dX12_clause_263 : decode cX12_clause 263 = .ok (.iaload, 1) := by decide +kernel
theorem dX12_clause_264 : decode cX12_clause 264 = .ok (.iastore, 1) := by decide +kernel
theorem dX12_clause_265 : decode cX12_clause 265 = .ok (.aload_n 0, 1) := by decide +kernel
theorem dX12_clause_266 : decode cX12_clause 266 = .ok (.getfield 22, 3) := by decide +kernel
theorem dX12_clause_269 : decode cX12_clause 269 = .ok (.aload_n 0, 1) := by decide +kernel
theorem dX12_clause_270 : decode cX12_clause 270 = .ok (.getfield 137, 3) := by decide +kernel
theorem dX12_clause_273 : decode cX12_clause 273 = .ok (.dup2, 1) := by decide +kernel
theorem dX12_clause_274 : decode cX12_clause 274 = .ok (.iaload, 1) := by decide +kernel
theorem dX12_clause_275 : decode cX12_clause 275 = .ok (.iconst 1, 1) := by decide +kernel
theorem dX12_clause_276 : decode cX12_clause 276 = .ok (.iadd, 1) := by decide +kernel
theorem dX12_clause_277 : decode cX12_clause 277 = .ok (.iastore, 1) := by decide +kernel
theorem dX12_clause_278 : decode cX12_clause 278 = .ok (.return_, 1) := by decide +kernel
def w_X12_clause : List Cond := .code yX12_clause cX12_clause 3 none :: ([Cond.fieldLink RX12 137 "HeadYearModel" "text" "I", Cond.fieldLink RX12 22 "HeadYearModel" "clauses" "[I", Cond.fieldLink RX12 134 "HeadYearModel" "wrong" "I", Cond.fieldLink RX12 127 "HeadYearModel" "at" "I", Cond.fieldLink RX12 25 "HeadYearModel" "testFrom" "[I", Cond.fieldLink RX12 19 "HeadYearModel" "codes" "[I", Cond.methodLink RX12 146 yX12_look, Cond.instanceMethod yX12_look, Cond.selects RX12 yX12_look yX12_look, Cond.initialized RX12, Cond.fieldLink RX12 28 "HeadYearModel" "sumFrom" "[I", Cond.fieldLink RX12 31 "HeadYearModel" "sumTo" "[I", Cond.methodLink RX12 167 yX12_sum, Cond.instanceMethod yX12_sum, Cond.selects RX12 yX12_sum yX12_sum, Cond.methodLink RX12 143 yX12_bad, Cond.instanceMethod yX12_bad, Cond.selects RX12 yX12_bad yX12_bad, Cond.methodLink RX12 180 yX12_isSign, Cond.static yX12_isSign, Cond.methodLink RX12 189 yX12_compare, Cond.instanceMethod yX12_compare, Cond.selects RX12 yX12_compare yX12_compare, Cond.methodLink RX12 192 yX12_goOnAnd, Cond.instanceMethod yX12_goOnAnd, Cond.selects RX12 yX12_goOnAnd yX12_goOnAnd, Cond.methodLink RX12 195 yX12_goOnOr, Cond.instanceMethod yX12_goOnOr, Cond.selects RX12 yX12_goOnOr yX12_goOnOr, Cond.methodLink RX12 186 yX12_condition, Cond.instanceMethod yX12_condition, Cond.selects RX12 yX12_condition yX12_condition] ++ (u_ws RX12 TX12 54 ++ (w_X12_look ++ (w_X12_sum ++ (w_X12_bad ++ (w_X12_isSign ++ (w_X12_compare ++ (w_X12_goOnAnd ++ (w_X12_goOnOr ++ (w_X12_condition ++ ([])))))))))))
theorem in_X12_clause_X12 : ∀ w ∈ u_ws RX12 TX12 54, w ∈ w_X12_clause := fun _ h => List.mem_cons_of_mem _ (List.mem_append_right _ (List.mem_append_left _ h))
theorem gg_X12_clause_X12_look : GoodIn w_X12_clause w_X12_look := goodIn_sub (fun _ h => List.mem_cons_of_mem _ (List.mem_append_right _ (List.mem_append_right _ (List.mem_append_left _ h)))) (by decide +kernel)
theorem gg_X12_clause_X12_sum : GoodIn w_X12_clause w_X12_sum := goodIn_sub (fun _ h => List.mem_cons_of_mem _ (List.mem_append_right _ (List.mem_append_right _ (List.mem_append_right _ (List.mem_append_left _ h))))) (by decide +kernel)
theorem gg_X12_clause_X12_bad : GoodIn w_X12_clause w_X12_bad := goodIn_sub (fun _ h => List.mem_cons_of_mem _ (List.mem_append_right _ (List.mem_append_right _ (List.mem_append_right _ (List.mem_append_right _ (List.mem_append_left _ h)))))) (by decide +kernel)
theorem gg_X12_clause_X12_isSign : GoodIn w_X12_clause w_X12_isSign := goodIn_sub (fun _ h => List.mem_cons_of_mem _ (List.mem_append_right _ (List.mem_append_right _ (List.mem_append_right _ (List.mem_append_right _ (List.mem_append_right _ (List.mem_append_left _ h))))))) (by decide +kernel)
theorem gg_X12_clause_X12_compare : GoodIn w_X12_clause w_X12_compare := goodIn_sub (fun _ h => List.mem_cons_of_mem _ (List.mem_append_right _ (List.mem_append_right _ (List.mem_append_right _ (List.mem_append_right _ (List.mem_append_right _ (List.mem_append_right _ (List.mem_append_left _ h)))))))) (by decide +kernel)
theorem gg_X12_clause_X12_goOnAnd : GoodIn w_X12_clause w_X12_goOnAnd := goodIn_sub (fun _ h => List.mem_cons_of_mem _ (List.mem_append_right _ (List.mem_append_right _ (List.mem_append_right _ (List.mem_append_right _ (List.mem_append_right _ (List.mem_append_right _ (List.mem_append_right _ (List.mem_append_left _ h))))))))) (by decide +kernel)
theorem gg_X12_clause_X12_goOnOr : GoodIn w_X12_clause w_X12_goOnOr := goodIn_sub (fun _ h => List.mem_cons_of_mem _ (List.mem_append_right _ (List.mem_append_right _ (List.mem_append_right _ (List.mem_append_right _ (List.mem_append_right _ (List.mem_append_right _ (List.mem_append_right _ (List.mem_append_right _ (List.mem_append_left _ h)))))))))) (by decide +kernel)
theorem gg_X12_clause_X12_condition : GoodIn w_X12_clause w_X12_condition := goodIn_sub (fun _ h => List.mem_cons_of_mem _ (List.mem_append_right _ (List.mem_append_right _ (List.mem_append_right _ (List.mem_append_right _ (List.mem_append_right _ (List.mem_append_right _ (List.mem_append_right _ (List.mem_append_right _ (List.mem_append_right _ (List.mem_append_left _ h))))))))))) (by decide +kernel)
theorem g_X12_clause_X12_bad_143 : GoodIn w_X12_clause (wsV RX12 143 RX12 yX12_bad w_X12_bad) := goodIn_app (goodIn_of _ (by decide +kernel)) gg_X12_clause_X12_bad
theorem g_X12_clause_X12_compare_189 : GoodIn w_X12_clause (wsV RX12 189 RX12 yX12_compare w_X12_compare) := goodIn_app (goodIn_of _ (by decide +kernel)) gg_X12_clause_X12_compare
theorem g_X12_clause_X12_condition_186 : GoodIn w_X12_clause (wsV RX12 186 RX12 yX12_condition w_X12_condition) := goodIn_app (goodIn_of _ (by decide +kernel)) gg_X12_clause_X12_condition
theorem g_X12_clause_X12_goOnAnd_192 : GoodIn w_X12_clause (wsV RX12 192 RX12 yX12_goOnAnd w_X12_goOnAnd) := goodIn_app (goodIn_of _ (by decide +kernel)) gg_X12_clause_X12_goOnAnd
theorem g_X12_clause_X12_goOnOr_195 : GoodIn w_X12_clause (wsV RX12 195 RX12 yX12_goOnOr w_X12_goOnOr) := goodIn_app (goodIn_of _ (by decide +kernel)) gg_X12_clause_X12_goOnOr
theorem g_X12_clause_X12_isSign_180 : GoodIn w_X12_clause (va_wsS RX12 180 yX12_isSign w_X12_isSign) := goodIn_app (goodIn_of _ (by decide +kernel)) gg_X12_clause_X12_isSign
theorem g_X12_clause_X12_look_146 : GoodIn w_X12_clause (wsV RX12 146 RX12 yX12_look w_X12_look) := goodIn_app (goodIn_of _ (by decide +kernel)) gg_X12_clause_X12_look
theorem g_X12_clause_X12_sum_167 : GoodIn w_X12_clause (wsV RX12 167 RX12 yX12_sum w_X12_sum) := goodIn_app (goodIn_of _ (by decide +kernel)) gg_X12_clause_X12_sum
set_option maxHeartbeats 4000000 in
set_option maxRecDepth 100000 in
theorem c_X12_clause (l : Launch) (E : py_E) (G : wf_G) (L : List Nat) (f : py_F) (sz : Nat) (u : Nat) (hG : GT G) (hWF : WF E G L f) (Tu : G.1 u = 13) (hp0 : mi f u 4 = -1 ∧ mi f u 5 = 0 ∧ 0 ≤ mi f u 3 ∧ mi f u 3 ≤ mi f u 2 ∧ cdv f G u ≤ mi f u 3 ∧ 2 * clv f G u ≤ mi f u 3) : Met l yX12_clause w_X12_clause ({ frames := 67, cells := 0, slots := 0, locals := 3680 }) (py_Pc E [.ref u] L f sz) (py_Qv E L f sz (fun L1 f1 => (mi f u 3 + 2 ≤ mi f1 u 3 ∧ cdv f1 G u ≤ mi f1 u 3 ∧ mi f1 u 3 ≤ 170) ∧ (mi f1 u 4 = -1 → mi f1 u 5 = 0 ∧ mi f1 u 3 ≤ mi f u 2 ∧ clv f1 G u = clv f G u + 1) ∧ (clv f1 G u = clv f G u ∨ clv f1 G u = clv f G u + 1) ∧ (CX f f1 G u) ∧ (mi f1 u 4 = -1 → CO f1 G u (mi f u 14) (90 * mi f u 14 + clv f G u) ∧ arz f1 (G.2 u 12) (90 * mi f u 14 + clv f G u) ≤ cdv f1 G u) ∧ WF E G L1 f1 ∧ KP G [41, 42, 43, 44, 45, 46, 47, 13] false f f1 ∧ FK [3, 4, 5] f f1 u)) 0 0 (va_A (va_pl L f) sz) := by
  refine Met.ofW (cc := cX12_clause) (maxL := 3) (ret := none) (by decide) rfl ?_
  intro p e s m args below meth c s₁ B hml hv
  obtain ⟨rfl, rfl, hw⟩ := py_start hv
  have G0 : CallFix p m c cX12_clause 3 s _ w_X12_clause RX12 := ⟨B.exec, B.bytes, hml, findClass_of_methodNamed B.named, atoms_spec (ws := w_X12_clause) B.pre⟩
  have hr := B.returns
  have hlk := B.notSynchronized
  have kcm1 : (-1 : Int32).toInt = -1 := rfl
  have kc0 : (0 : Int32).toInt = 0 := rfl
  have kc1 : (1 : Int32).toInt = 1 := rfl
  have kc33 : (33 : Int32).toInt = 33 := rfl
  have kc40 : (40 : Int32).toInt = 40 := rfl
  have kc58 : (58 : Int32).toInt = 58 := rfl
  have kc63 : (63 : Int32).toInt = 63 := rfl
  have kc90 : (90 : Int32).toInt = 90 := rfl
  have kc121 : (121 : Int32).toInt = 121 := rfl
  have hl := lv_entry ([.ref u]) (n := 3) (Nat.le_of_ble_eq_true rfl)
  rw [lg_entry_eq]
  generalize (lg_sl ([.ref u]) ++ List.replicate (3 - (lg_sl ([.ref u])).length) Slot.unset).toArray = ls at hl ⊢
  have hl : lv_has ls 3 [(0, .ref u)] := hl
  have hFK : FK [3, 4, 5] f f u := FK.refl
  have hKP : KP G [41, 42, 43, 44, 45, 46, 47, 13] false f f := KP.refl
  have hX9 : AX f f (G.2 u 9) (mi f u 14) := AX.refl
  have hX10 : AX f f (G.2 u 10) (90 * mi f u 14 + clv f G u) := AX.refl
  have hX11 : AX f f (G.2 u 11) (90 * mi f u 14 + clv f G u) := AX.refl
  have hX12 : AX f f (G.2 u 12) (90 * mi f u 14 + clv f G u) := AX.refl
  obtain ⟨v_1, v_2, v_3, v_4, v_5, v_6, v_7, v_8, v_9, v_10, v_11, v_12, y_13, v_14, v_15, v_16, v_17, v_18, y_19, v_20, y_21, v_22, hr_35, b_23, b_24, b_25, b_26, b_27, b_28, b_29, b_30, b_31, b_32, b_33, b_34⟩ := wg_12 hWF Tu
  have tq_36 := mi_row hr_35 2 rfl
  have tq_37 := mi_row hr_35 3 rfl
  have bv_3 := wf_free v_3
  have tq_38 := mi_row hr_35 4 rfl
  have bv_4 := wf_free v_4
  have tq_39 := mi_row hr_35 5 rfl
  have bv_5 := wf_free v_5
  have tq_40 := mi_row hr_35 14 rfl
  have hcd := cdv_rng hG hWF Tu (by omega) (by omega)
  have hck := clv_rng hG hWF Tu (by omega) (by omega)
  have hTR : TR f f G u (80) 0 0 := TR.refl (by omega) (by omega)
  refine lv_bipush (v := 90) G0.1 G0.2.1 dX12_clause_0 (by decide) ?_
  refine lv_aload_n G0.1 G0.2.1 dX12_clause_2 rfl (lv_at hl 0 rfl) ?_
  refine py_get (C := RX12) (T := TX12) (N := 54) (k := 14) (v := .int v_7) G0 hw in_X12_clause_X12 rfl hr_35 (by decide) (by decide +kernel) rfl dX12_clause_3 ?_
  refine lv_imul G0.1 G0.2.1 dX12_clause_6 ?_
  refine lv_topi (fun x_41 ex_41 => ?_)
  first | have tx_41 := ti_muld ex_41 kc90 (by omega -splitDisjunctions) (by omega -splitDisjunctions) | skip
  refine lv_aload_n G0.1 G0.2.1 dX12_clause_7 rfl (lv_at hl 0 rfl) ?_
  refine py_get (C := RX12) (T := TX12) (N := 54) (k := 9) (v := .ref (G.2 u 9)) G0 hw in_X12_clause_X12 rfl hr_35 (by decide) (by decide +kernel) rfl dX12_clause_8 ?_
  refine lv_aload_n G0.1 G0.2.1 dX12_clause_11 rfl (lv_at hl 0 rfl) ?_
  refine py_get (C := RX12) (T := TX12) (N := 54) (k := 14) (v := .int v_7) G0 hw in_X12_clause_X12 rfl hr_35 (by decide) (by decide +kernel) rfl dX12_clause_12 ?_
  obtain ⟨g_42, ha_43, hi_44⟩ := wf_arr (n := 5) (lo := 0) (hi := 90) hWF (wt12_9 hG Tu) (by decide) (fun _ => rfl)
  have rg_45 : vp_in v_7 5 := ti_in (by omega) (by omega)
  refine py_iald G0 hw ha_43 rg_45 dX12_clause_15 ?_
  refine lv_topi (fun x_46 ex_46 => ?_)
  have bx_46 := ti_at hi_44 rg_45 ex_46
  have zx_46 := arz_ld ha_43 ex_46
  have hkxx_46 := clv_ld hr_35 rfl ha_43 ex_46
  refine lv_iadd G0.1 G0.2.1 dX12_clause_16 ?_
  refine lv_topi (fun x_47 ex_47 => ?_)
  first | have tx_47 := ti_add ex_47 (by omega -splitDisjunctions) (by omega -splitDisjunctions) | skip
  refine lv_istore_n (lv' := [(1, .int x_47), (0, .ref u)]) G0.1 G0.2.1 dX12_clause_17 rfl hl (by decide) rfl (fun ls hl => ?_)
  refine lv_aload_n G0.1 G0.2.1 dX12_clause_18 rfl (lv_at hl 1 rfl) ?_
  refine py_get (C := RX12) (T := TX12) (N := 54) (k := 4) (v := .int v_4) G0 hw in_X12_clause_X12 rfl hr_35 (by decide) (by decide +kernel) rfl dX12_clause_19 ?_
  refine lv_iconst (v := (-1)) G0.1 G0.2.1 dX12_clause_22 (by decide) ?_
  have jn_39 : ∀ (L_j39 : List Nat) (f_j39 : py_F) (H_j39 : Heap) (locs : List Loc) (ls : Array Slot), WF E G L_j39 f_j39 → KP G [41, 42, 43, 44, 45, 46, 47, 13] false f f_j39 → AX f f_j39 (G.2 u 9) (mi f u 14) → AX f f_j39 (G.2 u 10) (90 * mi f u 14 + clv f G u) → AX f f_j39 (G.2 u 11) (90 * mi f u 14 + clv f G u) → AX f f_j39 (G.2 u 12) (90 * mi f u 14 + clv f G u) → FK [3, 4, 5] f f_j39 u → TR f f_j39 G u (80) 0 0 → (mi f u 3 + 0 ≤ mi f_j39 u 3 ∧ mi f_j39 u 3 ≤ 160) → (cdv f_j39 G u = cdv f G u ∧ clv f_j39 G u = clv f G u ∧ mi f_j39 u 14 = mi f u 14) → (mi f_j39 u 4 = -1 → mi f_j39 u 3 < mi f u 2) → (mi f_j39 u 5 = 0 ∧ mi f_j39 u 2 = mi f u 2) → py_W E (va_A (va_pl L f) s.heap.size) s L_j39 f_j39 H_j39 locs → lv_has ls 3 [(1, .int x_47), (0, .ref u)] → W p l e (headSpec w_X12_clause ({ frames := 67, cells := 0, slots := 0, locals := 3680 })).room s m ([.ref u] : List Value).toArray below meth c H_j39 locs 0 0 (MQ below (py_Qv E L f s.heap.size (fun L1 f1 => (mi f u 3 + 2 ≤ mi f1 u 3 ∧ cdv f1 G u ≤ mi f1 u 3 ∧ mi f1 u 3 ≤ 170) ∧ (mi f1 u 4 = -1 → mi f1 u 5 = 0 ∧ mi f1 u 3 ≤ mi f u 2 ∧ clv f1 G u = clv f G u + 1) ∧ (clv f1 G u = clv f G u ∨ clv f1 G u = clv f G u + 1) ∧ (CX f f1 G u) ∧ (mi f1 u 4 = -1 → CO f1 G u (mi f u 14) (90 * mi f u 14 + clv f G u) ∧ arz f1 (G.2 u 12) (90 * mi f u 14 + clv f G u) ≤ cdv f1 G u) ∧ WF E G L1 f1 ∧ KP G [41, 42, 43, 44, 45, 46, 47, 13] false f f1 ∧ FK [3, 4, 5] f f1 u)) ([.ref u] : List Value).toArray s 0 0 (va_A (va_pl L f) s.heap.size)) (F0 m 39 ls []) := by
    intro L_j39 f_j39 H_j39 locs ls hWF hKP hX9 hX10 hX11 hX12 hFK hTR jv0 jv1 jv2 jv3 hw hl
    refine lv_aload_n G0.1 G0.2.1 dX12_clause_39 rfl (lv_at hl 1 rfl) ?_
    refine lv_dup G0.1 G0.2.1 dX12_clause_40 rfl ?_
    obtain ⟨v_48, v_49, v_50, v_51, v_52, v_53, v_54, v_55, v_56, v_57, v_58, v_59, y_60, v_61, v_62, v_63, v_64, v_65, y_66, v_67, y_68, v_69, hr_82, b_70, b_71, b_72, b_73, b_74, b_75, b_76, b_77, b_78, b_79, b_80, b_81⟩ := wg_12 hWF Tu
    have tq_83 := mi_row hr_82 2 rfl
    have tq_84 := mi_row hr_82 3 rfl
    have bv_50 := wf_free v_50
    have tq_85 := mi_row hr_82 4 rfl
    have bv_51 := wf_free v_51
    have tq_86 := mi_row hr_82 5 rfl
    have bv_52 := wf_free v_52
    have tq_87 := mi_row hr_82 14 rfl
    refine py_get (C := RX12) (T := TX12) (N := 54) (k := 3) (v := .int v_50) G0 hw in_X12_clause_X12 rfl hr_82 (by decide) (by decide +kernel) rfl dX12_clause_41 ?_
    refine lv_iconst (v := 1) G0.1 G0.2.1 dX12_clause_44 (by decide) ?_
    refine lv_iadd G0.1 G0.2.1 dX12_clause_45 ?_
    refine lv_topi (fun x_88 ex_88 => ?_)
    first | have tx_88 := ti_add ex_88 (by omega -splitDisjunctions) (by omega -splitDisjunctions) | skip
    refine py_put (C := RX12) (T := TX12) (N := 54) (k := 3) (v := .int x_88) (fs' := [.int v_48, .ref (G.2 u 1), .int v_49, .int x_88, .int v_51, .int v_52, .ref (G.2 u 6), .ref (G.2 u 7), .ref (G.2 u 8), .ref (G.2 u 9), .ref (G.2 u 10), .ref (G.2 u 11), .ref (G.2 u 12), .int v_53, .int v_54, .ref (G.2 u 15), .ref (G.2 u 16), .ref (G.2 u 17), .ref (G.2 u 18), .int v_55, .int v_56, .ref (G.2 u 21), .ref (G.2 u 22), .ref (G.2 u 23), .int v_57, .int v_58, .ref (G.2 u 26), .ref (G.2 u 27), .ref (G.2 u 28), .int v_59, .long y_60, .int v_61, .int v_62, .int v_63, .int v_64, .ref (G.2 u 35), .ref (G.2 u 36), .ref (G.2 u 37), .ref (G.2 u 38), .ref (G.2 u 39), .ref (G.2 u 40), .ref (G.2 u 41), .ref (G.2 u 42), .int v_65, .ref (G.2 u 44), .ref (G.2 u 45), .ref (G.2 u 46), .ref (G.2 u 47), .long y_66, .ref (G.2 u 49), .ref (G.2 u 50), .int v_67, .long y_68, .int v_69]) (ty0 := tyX12) G0 hw tyX12_ok nmX12 in_X12_clause_X12 rfl hr_82 (by decide) (by decide +kernel) rfl rfl rfl rfl (Nat.le_of_ble_eq_true rfl) rfl dX12_clause_46 (fun f_89 H_90 locs h_91 x_92 hw => ?_)
    have hX9 := hX9.same ((x_92 _ (hWF _ (by rw [wt12_9 hG Tu]; decide)).1 (wf_ne (wt12_9 hG Tu) Tu (by decide))).2)
    have hX10 := hX10.same ((x_92 _ (hWF _ (by rw [wt12_10 hG Tu]; decide)).1 (wf_ne (wt12_10 hG Tu) Tu (by decide))).2)
    have hX11 := hX11.same ((x_92 _ (hWF _ (by rw [wt12_11 hG Tu]; decide)).1 (wf_ne (wt12_11 hG Tu) Tu (by decide))).2)
    have hX12 := hX12.same ((x_92 _ (hWF _ (by rw [wt12_12 hG Tu]; decide)).1 (wf_ne (wt12_12 hG Tu) Tu (by decide))).2)
    have hFK := hFK.put hr_82 h_91 3 (by decide) rfl
    have cq_93 := cdv_own (f1 := f_j39) (f2 := f_89) hG hWF Tu x_92 (by have z1 := mi_row hr_82 14 rfl; have z2 := mi_row h_91 14 rfl; omega)
    have hTR := hTR.own hG hWF Tu x_92 (by have z1 := mi_row hr_82 14 rfl; have z2 := mi_row h_91 14 rfl; omega) (by intro q; have z1 := mi_row hr_82 4 rfl; have z2 := mi_row h_91 4 rfl; omega)
    have kq_94 := clv_own (f1 := f_j39) (f2 := f_89) hG hWF Tu x_92 (by have z1 := mi_row hr_82 14 rfl; have z2 := mi_row h_91 14 rfl; omega)
    have hKP := hKP.upd hWF x_92 Tu (Or.inl (by decide))
    have hWF := wf_upd hWF h_91 x_92 (by rw [Tu]; exact ⟨v_48, v_49, x_88, v_51, v_52, v_53, v_54, v_55, v_56, v_57, v_58, v_59, y_60, v_61, v_62, v_63, v_64, v_65, y_66, v_67, y_68, v_69, rfl, ⟨by omega, by omega⟩, ⟨by omega, by omega⟩, ⟨by omega, by omega⟩, ⟨by omega, by omega⟩, ⟨by omega, by omega⟩, ⟨by omega, by omega⟩, ⟨by omega, by omega⟩, ⟨by omega, by omega⟩, ⟨by omega, by omega⟩, ⟨by omega, by omega⟩, ⟨by omega, by omega⟩, ⟨by omega, by omega⟩⟩)
    have tq_95 := mi_row h_91 2 rfl
    have tq_96 := mi_row h_91 3 rfl
    have bx_88 := wf_free x_88
    have tq_97 := mi_row h_91 4 rfl
    have bv_51 := wf_free v_51
    have tq_98 := mi_row h_91 5 rfl
    have bv_52 := wf_free v_52
    have tq_99 := mi_row h_91 14 rfl
    refine lv_aload_n G0.1 G0.2.1 dX12_clause_49 rfl (lv_at hl 1 rfl) ?_
    refine py_get (C := RX12) (T := TX12) (N := 54) (k := 4) (v := .int v_51) G0 hw in_X12_clause_X12 rfl h_91 (by decide) (by decide +kernel) rfl dX12_clause_50 ?_
    refine lv_iconst (v := (-1)) G0.1 G0.2.1 dX12_clause_53 (by decide) ?_
    have jn_70 : ∀ (L_j70 : List Nat) (f_j70 : py_F) (H_j70 : Heap) (locs : List Loc) (ls : Array Slot), WF E G L_j70 f_j70 → KP G [41, 42, 43, 44, 45, 46, 47, 13] false f f_j70 → AX f f_j70 (G.2 u 9) (mi f u 14) → AX f f_j70 (G.2 u 10) (90 * mi f u 14 + clv f G u) → AX f f_j70 (G.2 u 11) (90 * mi f u 14 + clv f G u) → AX f f_j70 (G.2 u 12) (90 * mi f u 14 + clv f G u) → FK [3, 4, 5] f f_j70 u → TR f f_j70 G u (80) 0 0 → (mi f u 3 + 1 ≤ mi f_j70 u 3 ∧ mi f_j70 u 3 ≤ 161) → (cdv f_j70 G u = cdv f G u ∧ clv f_j70 G u = clv f G u ∧ mi f_j70 u 14 = mi f u 14) → (mi f_j70 u 4 = -1 → mi f_j70 u 3 < mi f u 2) → (mi f_j70 u 5 = 0 ∧ mi f_j70 u 2 = mi f u 2) → py_W E (va_A (va_pl L f) s.heap.size) s L_j70 f_j70 H_j70 locs → lv_has ls 3 [(1, .int x_47), (0, .ref u)] → W p l e (headSpec w_X12_clause ({ frames := 67, cells := 0, slots := 0, locals := 3680 })).room s m ([.ref u] : List Value).toArray below meth c H_j70 locs 0 0 (MQ below (py_Qv E L f s.heap.size (fun L1 f1 => (mi f u 3 + 2 ≤ mi f1 u 3 ∧ cdv f1 G u ≤ mi f1 u 3 ∧ mi f1 u 3 ≤ 170) ∧ (mi f1 u 4 = -1 → mi f1 u 5 = 0 ∧ mi f1 u 3 ≤ mi f u 2 ∧ clv f1 G u = clv f G u + 1) ∧ (clv f1 G u = clv f G u ∨ clv f1 G u = clv f G u + 1) ∧ (CX f f1 G u) ∧ (mi f1 u 4 = -1 → CO f1 G u (mi f u 14) (90 * mi f u 14 + clv f G u) ∧ arz f1 (G.2 u 12) (90 * mi f u 14 + clv f G u) ≤ cdv f1 G u) ∧ WF E G L1 f1 ∧ KP G [41, 42, 43, 44, 45, 46, 47, 13] false f f1 ∧ FK [3, 4, 5] f f1 u)) ([.ref u] : List Value).toArray s 0 0 (va_A (va_pl L f) s.heap.size)) (F0 m 70 ls []) := by
      intro L_j70 f_j70 H_j70 locs ls hWF hKP hX9 hX10 hX11 hX12 hFK hTR jv0 jv1 jv2 jv3 hw hl
      refine lv_aload_n G0.1 G0.2.1 dX12_clause_70 rfl (lv_at hl 1 rfl) ?_
      refine lv_dup G0.1 G0.2.1 dX12_clause_71 rfl ?_
      obtain ⟨v_100, v_101, v_102, v_103, v_104, v_105, v_106, v_107, v_108, v_109, v_110, v_111, y_112, v_113, v_114, v_115, v_116, v_117, y_118, v_119, y_120, v_121, hr_134, b_122, b_123, b_124, b_125, b_126, b_127, b_128, b_129, b_130, b_131, b_132, b_133⟩ := wg_12 hWF Tu
      have tq_135 := mi_row hr_134 2 rfl
      have tq_136 := mi_row hr_134 3 rfl
      have bv_102 := wf_free v_102
      have tq_137 := mi_row hr_134 4 rfl
      have bv_103 := wf_free v_103
      have tq_138 := mi_row hr_134 5 rfl
      have bv_104 := wf_free v_104
      have tq_139 := mi_row hr_134 14 rfl
      refine py_get (C := RX12) (T := TX12) (N := 54) (k := 3) (v := .int v_102) G0 hw in_X12_clause_X12 rfl hr_134 (by decide) (by decide +kernel) rfl dX12_clause_72 ?_
      refine lv_iconst (v := 1) G0.1 G0.2.1 dX12_clause_75 (by decide) ?_
      refine lv_iadd G0.1 G0.2.1 dX12_clause_76 ?_
      refine lv_topi (fun x_140 ex_140 => ?_)
      first | have tx_140 := ti_add ex_140 (by omega -splitDisjunctions) (by omega -splitDisjunctions) | skip
      refine py_put (C := RX12) (T := TX12) (N := 54) (k := 3) (v := .int x_140) (fs' := [.int v_100, .ref (G.2 u 1), .int v_101, .int x_140, .int v_103, .int v_104, .ref (G.2 u 6), .ref (G.2 u 7), .ref (G.2 u 8), .ref (G.2 u 9), .ref (G.2 u 10), .ref (G.2 u 11), .ref (G.2 u 12), .int v_105, .int v_106, .ref (G.2 u 15), .ref (G.2 u 16), .ref (G.2 u 17), .ref (G.2 u 18), .int v_107, .int v_108, .ref (G.2 u 21), .ref (G.2 u 22), .ref (G.2 u 23), .int v_109, .int v_110, .ref (G.2 u 26), .ref (G.2 u 27), .ref (G.2 u 28), .int v_111, .long y_112, .int v_113, .int v_114, .int v_115, .int v_116, .ref (G.2 u 35), .ref (G.2 u 36), .ref (G.2 u 37), .ref (G.2 u 38), .ref (G.2 u 39), .ref (G.2 u 40), .ref (G.2 u 41), .ref (G.2 u 42), .int v_117, .ref (G.2 u 44), .ref (G.2 u 45), .ref (G.2 u 46), .ref (G.2 u 47), .long y_118, .ref (G.2 u 49), .ref (G.2 u 50), .int v_119, .long y_120, .int v_121]) (ty0 := tyX12) G0 hw tyX12_ok nmX12 in_X12_clause_X12 rfl hr_134 (by decide) (by decide +kernel) rfl rfl rfl rfl (Nat.le_of_ble_eq_true rfl) rfl dX12_clause_77 (fun f_141 H_142 locs h_143 x_144 hw => ?_)
      have hX9 := hX9.same ((x_144 _ (hWF _ (by rw [wt12_9 hG Tu]; decide)).1 (wf_ne (wt12_9 hG Tu) Tu (by decide))).2)
      have hX10 := hX10.same ((x_144 _ (hWF _ (by rw [wt12_10 hG Tu]; decide)).1 (wf_ne (wt12_10 hG Tu) Tu (by decide))).2)
      have hX11 := hX11.same ((x_144 _ (hWF _ (by rw [wt12_11 hG Tu]; decide)).1 (wf_ne (wt12_11 hG Tu) Tu (by decide))).2)
      have hX12 := hX12.same ((x_144 _ (hWF _ (by rw [wt12_12 hG Tu]; decide)).1 (wf_ne (wt12_12 hG Tu) Tu (by decide))).2)
      have hFK := hFK.put hr_134 h_143 3 (by decide) rfl
      have cq_145 := cdv_own (f1 := f_j70) (f2 := f_141) hG hWF Tu x_144 (by have z1 := mi_row hr_134 14 rfl; have z2 := mi_row h_143 14 rfl; omega)
      have hTR := hTR.own hG hWF Tu x_144 (by have z1 := mi_row hr_134 14 rfl; have z2 := mi_row h_143 14 rfl; omega) (by intro q; have z1 := mi_row hr_134 4 rfl; have z2 := mi_row h_143 4 rfl; omega)
      have kq_146 := clv_own (f1 := f_j70) (f2 := f_141) hG hWF Tu x_144 (by have z1 := mi_row hr_134 14 rfl; have z2 := mi_row h_143 14 rfl; omega)
      have hKP := hKP.upd hWF x_144 Tu (Or.inl (by decide))
      have hWF := wf_upd hWF h_143 x_144 (by rw [Tu]; exact ⟨v_100, v_101, x_140, v_103, v_104, v_105, v_106, v_107, v_108, v_109, v_110, v_111, y_112, v_113, v_114, v_115, v_116, v_117, y_118, v_119, y_120, v_121, rfl, ⟨by omega, by omega⟩, ⟨by omega, by omega⟩, ⟨by omega, by omega⟩, ⟨by omega, by omega⟩, ⟨by omega, by omega⟩, ⟨by omega, by omega⟩, ⟨by omega, by omega⟩, ⟨by omega, by omega⟩, ⟨by omega, by omega⟩, ⟨by omega, by omega⟩, ⟨by omega, by omega⟩, ⟨by omega, by omega⟩⟩)
      have tq_147 := mi_row h_143 2 rfl
      have tq_148 := mi_row h_143 3 rfl
      have bx_140 := wf_free x_140
      have tq_149 := mi_row h_143 4 rfl
      have bv_103 := wf_free v_103
      have tq_150 := mi_row h_143 5 rfl
      have bv_104 := wf_free v_104
      have tq_151 := mi_row h_143 14 rfl
      refine lv_aload_n G0.1 G0.2.1 dX12_clause_80 rfl (lv_at hl 1 rfl) ?_
      refine py_get (C := RX12) (T := TX12) (N := 54) (k := 4) (v := .int v_103) G0 hw in_X12_clause_X12 rfl h_143 (by decide) (by decide +kernel) rfl dX12_clause_81 ?_
      refine lv_iconst (v := (-1)) G0.1 G0.2.1 dX12_clause_84 (by decide) ?_
      refine lv_icmp_eq (tgt := 89) G0.1 G0.2.1 dX12_clause_85 (by decide) (fun c_152 => ?_) (fun c_152 => ?_)
      · skip
        have tc_152 := ti_eq c_152
        refine lv_aload_n G0.1 G0.2.1 dX12_clause_89 rfl (lv_at hl 1 rfl) ?_
        refine py_get (C := RX12) (T := TX12) (N := 54) (k := 10) (v := .ref (G.2 u 10)) G0 hw in_X12_clause_X12 rfl h_143 (by decide) (by decide +kernel) rfl dX12_clause_90 ?_
        refine lv_iload_n G0.1 G0.2.1 dX12_clause_93 rfl (lv_at hl 0 rfl) ?_
        refine lv_aload_n G0.1 G0.2.1 dX12_clause_94 rfl (lv_at hl 1 rfl) ?_
        refine py_get (C := RX12) (T := TX12) (N := 54) (k := 8) (v := .ref (G.2 u 8)) G0 hw in_X12_clause_X12 rfl h_143 (by decide) (by decide +kernel) rfl dX12_clause_95 ?_
        refine lv_aload_n G0.1 G0.2.1 dX12_clause_98 rfl (lv_at hl 1 rfl) ?_
        refine py_get (C := RX12) (T := TX12) (N := 54) (k := 14) (v := .int v_106) G0 hw in_X12_clause_X12 rfl h_143 (by decide) (by decide +kernel) rfl dX12_clause_99 ?_
        obtain ⟨g_153, ha_154, hi_155⟩ := wf_arr (n := 5) (lo := 0) (hi := 340) hWF (wt12_8 hG Tu) (by decide) (fun _ => rfl)
        have rg_156 : vp_in v_106 5 := ti_in (by omega) (by omega)
        refine py_iald G0 hw ha_154 rg_156 dX12_clause_102 ?_
        refine lv_topi (fun x_157 ex_157 => ?_)
        have bx_157 := ti_at hi_155 rg_156 ex_157
        have zx_157 := arz_ld ha_154 ex_157
        have hcxx_157 := cdv_ld h_143 rfl ha_154 ex_157
        obtain ⟨g_158, ha_159, hi_160⟩ := wf_arr (n := 450) (lo := (-2147483648)) (hi := 2147483647) hWF (wt12_10 hG Tu) (by decide) (fun _ => rfl)
        have rg_161 : vp_in x_47 450 := ti_in (by omega) (by omega)
        refine py_iast G0 hw ha_159 rg_161 dX12_clause_103 (fun f_162 H_163 locs h_164 x_165 hw => ?_)
        have hkw : KP G [45] false f_141 f_162 := KP.refl.upd hWF x_165 (wt12_10 hG Tu) (Or.inl (by decide))
        have hX9 := hX9.same ((x_165 _ (hWF _ (by rw [wt12_9 hG Tu]; decide)).1 (wf_ne (wt12_9 hG Tu) (wt12_10 hG Tu) (by decide))).2)
        have hX11 := hX11.same ((x_165 _ (hWF _ (by rw [wt12_11 hG Tu]; decide)).1 (wf_ne (wt12_11 hG Tu) (wt12_10 hG Tu) (by decide))).2)
        have hX12 := hX12.same ((x_165 _ (hWF _ (by rw [wt12_12 hG Tu]; decide)).1 (wf_ne (wt12_12 hG Tu) (wt12_10 hG Tu) (by decide))).2)
        have hFK := hFK.same ((x_165 _ (hWF _ (by rw [Tu]; decide)).1 (wf_ne Tu (wt12_10 hG Tu) (by decide))).2)
        have cq_166 := cdv_kp (f := f_141) (f1 := f_162) (m := u) (x_165 _ (hWF _ (by rw [wt12_8 hG Tu]; decide)).1 (wf_ne (wt12_8 hG Tu) (wt12_10 hG Tu) (by decide))).2 (mi_kp (x_165 u (hWF u (by rw [Tu]; decide)).1 (wf_ne Tu (wt12_10 hG Tu) (by decide))).2 14)
        have kq_167 := clv_kp (f := f_141) (f1 := f_162) (m := u) (x_165 _ (hWF _ (by rw [wt12_9 hG Tu]; decide)).1 (wf_ne (wt12_9 hG Tu) (wt12_10 hG Tu) (by decide))).2 (mi_kp (x_165 u (hWF u (by rw [Tu]; decide)).1 (wf_ne Tu (wt12_10 hG Tu) (by decide))).2 14)
        have hTR := hTR.same (f2 := f_162) (x_165 _ (hWF _ (by rw [wt12_6 hG Tu]; decide)).1 (wf_ne (wt12_6 hG Tu) (wt12_10 hG Tu) (by decide))).2 (x_165 _ (hWF _ (by rw [wt12_7 hG Tu]; decide)).1 (wf_ne (wt12_7 hG Tu) (wt12_10 hG Tu) (by decide))).2 (x_165 _ (hWF _ (by rw [wt12_8 hG Tu]; decide)).1 (wf_ne (wt12_8 hG Tu) (wt12_10 hG Tu) (by decide))).2 (mi_kp (x_165 u (hWF u (by rw [Tu]; decide)).1 (wf_ne Tu (wt12_10 hG Tu) (by decide))).2 14) (fun q => by have hz := mi_kp (x_165 u (hWF u (by rw [Tu]; decide)).1 (wf_ne Tu (wt12_10 hG Tu) (by decide))).2 4; omega)
        have hKP := hKP.upd hWF x_165 (wt12_10 hG Tu) (Or.inl (by decide))
        have hi_168 := wf_inu (k := (x_47 : Int32).toNatClampNeg) (x := x_157) hi_160 (wf_free x_157).1 (wf_free x_157).2
        have hWF := wf_upd hWF h_164 x_165 (by rw [(wt12_10 hG Tu)]; exact ⟨_, rfl, hi_168⟩)
        have h_143 := h_143.ext x_165 (py_ne_arr h_143 ha_159)
        have tq_169 := mi_row h_143 2 rfl
        have tq_170 := mi_row h_143 3 rfl
        have bx_140 := wf_free x_140
        have tq_171 := mi_row h_143 4 rfl
        have bv_103 := wf_free v_103
        have tq_172 := mi_row h_143 5 rfl
        have bv_104 := wf_free v_104
        have tq_173 := mi_row h_143 14 rfl
        have ha_154 := ha_154.ext x_165 (wf_ne (wt12_8 hG Tu) (wt12_10 hG Tu) (by decide))
        have hX10 := hX10.up ha_159 h_164 (by omega) (by omega)
        have hV10 : arz f_162 (G.2 u 10) (90 * mi f u 14 + clv f G u) = cdv f G u := by rw [show (90 * mi f u 14 + clv f G u) = x_47.toInt by omega, (arz_up ha_159 h_164 (by omega)).1]; omega
        refine lv_aload_n G0.1 G0.2.1 dX12_clause_104 rfl (lv_at hl 1 rfl) ?_
        refine py_calli hw (va_runV (As := []) (rest := []) G0 (c_X12_look l E G L_j70 f_162 H_163.size u hG hWF Tu (show 0 ≤ mi f_162 u 3 ∧ mi f_162 u 3 ≤ mi f_162 u 2 by omega)) (cwV 0 G0.2.2.2.2 g_X12_clause_X12_look_146 rfl rfl rfl (by decide +kernel) ⟨(Nat.le_of_ble_eq_true rfl), (Nat.le_of_ble_eq_true rfl)⟩) (py_preV hw (C := RX12) (T := TX12) (N := 54) rfl h_143) rfl rfl hl.1 rfl (lv_room (Nat.le_of_ble_eq_true rfl)) dX12_clause_105 ⟨(Nat.le_of_ble_eq_true rfl), (Nat.le_of_ble_eq_true rfl)⟩) (fun r_178 L_174 f_175 H_176 locs hp_177 hw => ?_)
        obtain ⟨en_179, en_180, en_181, hWF, kp_182, fk_183⟩ := hp_177
        have hX9 := hX9.same (kp_f kp_182 (wt12_9 hG Tu) (by decide) (by decide) (fun _ => by decide))
        have hX10 := hX10.same (kp_f kp_182 (wt12_10 hG Tu) (by decide) (by decide) (fun _ => by decide))
        have hX11 := hX11.same (kp_f kp_182 (wt12_11 hG Tu) (by decide) (by decide) (fun _ => by decide))
        have hX12 := hX12.same (kp_f kp_182 (wt12_12 hG Tu) (by decide) (by decide) (fun _ => by decide))
        have hV10 := (arz_kp (kp_f kp_182 (wt12_10 hG Tu) (by decide) (by decide) (fun _ => by decide)) _).trans hV10
        have cq_184 := cdv_k hG Tu kp_182 fk_183 (by decide)
        have kq_185 := clv_k hG Tu kp_182 fk_183 (by decide)
        have hFK := hFK.trans fk_183 (by decide)
        have hKP := hKP.trans kp_182 (by decide) (by decide)
        obtain ⟨v_186, hr_187⟩ := fk_3 hWF Tu fk_183 h_143
        have tq_188 := mi_row hr_187 2 rfl
        have tq_189 := mi_row hr_187 3 rfl
        have bv_186 := wf_free v_186
        have tq_190 := mi_row hr_187 4 rfl
        have bv_103 := wf_free v_103
        have tq_191 := mi_row hr_187 5 rfl
        have bv_104 := wf_free v_104
        have tq_192 := mi_row hr_187 14 rfl
        have h_164 := kp_at kp_182 hWF (wt12_10 hG Tu) (by decide) (by decide) (by decide) h_164
        have ha_154 := kp_at kp_182 hWF (wt12_8 hG Tu) (by decide) (by decide) (by decide) ha_154
        have hTR := hTR.kp hG Tu kp_182 fk_183 (by decide) (fun q => by omega)
        have br_178 := wf_free r_178
        refine lv_bipush (v := 33) G0.1 G0.2.1 dX12_clause_108 (by decide) ?_
        have jn_127 : ∀ (v_193 : Int32) (L_j127 : List Nat) (f_j127 : py_F) (H_j127 : Heap) (locs : List Loc) (ls : Array Slot), (0 ≤ v_193.toInt ∧ v_193.toInt ≤ 1) → WF E G L_j127 f_j127 → KP G [41, 42, 43, 44, 45, 46, 47, 13] false f f_j127 → AX f f_j127 (G.2 u 9) (mi f u 14) → AX f f_j127 (G.2 u 10) (90 * mi f u 14 + clv f G u) → AX f f_j127 (G.2 u 11) (90 * mi f u 14 + clv f G u) → AX f f_j127 (G.2 u 12) (90 * mi f u 14 + clv f G u) → FK [3, 4, 5] f f_j127 u → TR f f_j127 G u (80) 0 0 → arz f_j127 (G.2 u 10) (90 * mi f u 14 + clv f G u) = cdv f G u → (mi f u 3 + 2 ≤ mi f_j127 u 3 ∧ mi f_j127 u 3 ≤ 162 ∧ mi f_j127 u 4 = -1) → (cdv f_j127 G u = cdv f G u ∧ clv f_j127 G u = clv f G u ∧ mi f_j127 u 14 = mi f u 14) → (mi f_j127 u 5 = 0 ∧ mi f_j127 u 2 = mi f u 2 ∧ mi f_j127 u 3 ≤ mi f u 2) → py_W E (va_A (va_pl L f) s.heap.size) s L_j127 f_j127 H_j127 locs → lv_has ls 3 [(1, .int x_47), (0, .ref u)] → W p l e (headSpec w_X12_clause ({ frames := 67, cells := 0, slots := 0, locals := 3680 })).room s m ([.ref u] : List Value).toArray below meth c H_j127 locs 0 0 (MQ below (py_Qv E L f s.heap.size (fun L1 f1 => (mi f u 3 + 2 ≤ mi f1 u 3 ∧ cdv f1 G u ≤ mi f1 u 3 ∧ mi f1 u 3 ≤ 170) ∧ (mi f1 u 4 = -1 → mi f1 u 5 = 0 ∧ mi f1 u 3 ≤ mi f u 2 ∧ clv f1 G u = clv f G u + 1) ∧ (clv f1 G u = clv f G u ∨ clv f1 G u = clv f G u + 1) ∧ (CX f f1 G u) ∧ (mi f1 u 4 = -1 → CO f1 G u (mi f u 14) (90 * mi f u 14 + clv f G u) ∧ arz f1 (G.2 u 12) (90 * mi f u 14 + clv f G u) ≤ cdv f1 G u) ∧ WF E G L1 f1 ∧ KP G [41, 42, 43, 44, 45, 46, 47, 13] false f f1 ∧ FK [3, 4, 5] f f1 u)) ([.ref u] : List Value).toArray s 0 0 (va_A (va_pl L f) s.heap.size)) (F0 m 127 ls [.int v_193]) := by
          intro v_193 L_j127 f_j127 H_j127 locs ls bv_193 hWF hKP hX9 hX10 hX11 hX12 hFK hTR hV10 jv0 jv1 jv2 hw hl
          refine lv_istore_n (lv' := [(2, .int v_193), (1, .int x_47), (0, .ref u)]) G0.1 G0.2.1 dX12_clause_127 rfl hl (by decide) rfl (fun ls hl => ?_)
          refine lv_iload_n G0.1 G0.2.1 dX12_clause_128 rfl (lv_at hl 0 rfl) ?_
          have jn_183 : ∀ (v_194 : Int32) (L_j183 : List Nat) (f_j183 : py_F) (H_j183 : Heap) (locs : List Loc) (ls : Array Slot), WF E G L_j183 f_j183 → KP G [41, 42, 43, 44, 45, 46, 47, 13] false f f_j183 → AX f f_j183 (G.2 u 9) (mi f u 14) → AX f f_j183 (G.2 u 10) (90 * mi f u 14 + clv f G u) → AX f f_j183 (G.2 u 11) (90 * mi f u 14 + clv f G u) → AX f f_j183 (G.2 u 12) (90 * mi f u 14 + clv f G u) → FK [3, 4, 5] f f_j183 u → TR f f_j183 G u (80) 0 1 → arz f_j183 (G.2 u 10) (90 * mi f u 14 + clv f G u) = cdv f G u → (mi f u 3 + 2 ≤ mi f_j183 u 3 ∧ cdv f_j183 G u ≤ mi f_j183 u 3 ∧ mi f_j183 u 3 ≤ 167) → (clv f_j183 G u = clv f G u ∧ mi f_j183 u 14 = mi f u 14 ∧ mi f_j183 u 2 = mi f u 2) → (mi f_j183 u 4 = -1 → mi f_j183 u 5 = 0 ∧ mi f_j183 u 3 ≤ mi f u 2) → py_W E (va_A (va_pl L f) s.heap.size) s L_j183 f_j183 H_j183 locs → lv_has ls 3 [(2, .int v_194), (1, .int x_47), (0, .ref u)] → W p l e (headSpec w_X12_clause ({ frames := 67, cells := 0, slots := 0, locals := 3680 })).room s m ([.ref u] : List Value).toArray below meth c H_j183 locs 0 0 (MQ below (py_Qv E L f s.heap.size (fun L1 f1 => (mi f u 3 + 2 ≤ mi f1 u 3 ∧ cdv f1 G u ≤ mi f1 u 3 ∧ mi f1 u 3 ≤ 170) ∧ (mi f1 u 4 = -1 → mi f1 u 5 = 0 ∧ mi f1 u 3 ≤ mi f u 2 ∧ clv f1 G u = clv f G u + 1) ∧ (clv f1 G u = clv f G u ∨ clv f1 G u = clv f G u + 1) ∧ (CX f f1 G u) ∧ (mi f1 u 4 = -1 → CO f1 G u (mi f u 14) (90 * mi f u 14 + clv f G u) ∧ arz f1 (G.2 u 12) (90 * mi f u 14 + clv f G u) ≤ cdv f1 G u) ∧ WF E G L1 f1 ∧ KP G [41, 42, 43, 44, 45, 46, 47, 13] false f f1 ∧ FK [3, 4, 5] f f1 u)) ([.ref u] : List Value).toArray s 0 0 (va_A (va_pl L f) s.heap.size)) (F0 m 183 ls []) := by
            intro v_194 L_j183 f_j183 H_j183 locs ls hWF hKP hX9 hX10 hX11 hX12 hFK hTR hV10 jv0 jv1 jv2 hw hl
            refine lv_aload_n G0.1 G0.2.1 dX12_clause_183 rfl (lv_at hl 2 rfl) ?_
            obtain ⟨v_195, v_196, v_197, v_198, v_199, v_200, v_201, v_202, v_203, v_204, v_205, v_206, y_207, v_208, v_209, v_210, v_211, v_212, y_213, v_214, y_215, v_216, hr_229, b_217, b_218, b_219, b_220, b_221, b_222, b_223, b_224, b_225, b_226, b_227, b_228⟩ := wg_12 hWF Tu
            have tq_230 := mi_row hr_229 2 rfl
            have tq_231 := mi_row hr_229 3 rfl
            have bv_197 := wf_free v_197
            have tq_232 := mi_row hr_229 4 rfl
            have bv_198 := wf_free v_198
            have tq_233 := mi_row hr_229 5 rfl
            have bv_199 := wf_free v_199
            have tq_234 := mi_row hr_229 14 rfl
            refine py_get (C := RX12) (T := TX12) (N := 54) (k := 11) (v := .ref (G.2 u 11)) G0 hw in_X12_clause_X12 rfl hr_229 (by decide) (by decide +kernel) rfl dX12_clause_184 ?_
            refine lv_iload_n G0.1 G0.2.1 dX12_clause_187 rfl (lv_at hl 1 rfl) ?_
            refine lv_aload_n G0.1 G0.2.1 dX12_clause_188 rfl (lv_at hl 2 rfl) ?_
            refine py_get (C := RX12) (T := TX12) (N := 54) (k := 10) (v := .ref (G.2 u 10)) G0 hw in_X12_clause_X12 rfl hr_229 (by decide) (by decide +kernel) rfl dX12_clause_189 ?_
            refine lv_iload_n G0.1 G0.2.1 dX12_clause_192 rfl (lv_at hl 1 rfl) ?_
            obtain ⟨g_235, ha_236, hi_237⟩ := wf_arr (n := 450) (lo := (-2147483648)) (hi := 2147483647) hWF (wt12_10 hG Tu) (by decide) (fun _ => rfl)
            have rg_238 : vp_in x_47 450 := ti_in (by omega) (by omega)
            refine py_iald G0 hw ha_236 rg_238 dX12_clause_193 ?_
            refine lv_topi (fun x_239 ex_239 => ?_)
            have bx_239 := wf_free x_239
            have zx_239 := arz_ld ha_236 ex_239
            obtain ⟨g_240, ha_241, hi_242⟩ := wf_arr (n := 450) (lo := (-2147483648)) (hi := 2147483647) hWF (wt12_11 hG Tu) (by decide) (fun _ => rfl)
            have rg_243 : vp_in x_47 450 := ti_in (by omega) (by omega)
            refine py_iast G0 hw ha_241 rg_243 dX12_clause_194 (fun f_244 H_245 locs h_246 x_247 hw => ?_)
            have hkw : KP G [46] false f_j183 f_244 := KP.refl.upd hWF x_247 (wt12_11 hG Tu) (Or.inl (by decide))
            have hX9 := hX9.same ((x_247 _ (hWF _ (by rw [wt12_9 hG Tu]; decide)).1 (wf_ne (wt12_9 hG Tu) (wt12_11 hG Tu) (by decide))).2)
            have hX10 := hX10.same ((x_247 _ (hWF _ (by rw [wt12_10 hG Tu]; decide)).1 (wf_ne (wt12_10 hG Tu) (wt12_11 hG Tu) (by decide))).2)
            have hX12 := hX12.same ((x_247 _ (hWF _ (by rw [wt12_12 hG Tu]; decide)).1 (wf_ne (wt12_12 hG Tu) (wt12_11 hG Tu) (by decide))).2)
            have hV10 := (arz_kp ((x_247 _ (hWF _ (by rw [wt12_10 hG Tu]; decide)).1 (wf_ne (wt12_10 hG Tu) (wt12_11 hG Tu) (by decide))).2) _).trans hV10
            have hFK := hFK.same ((x_247 _ (hWF _ (by rw [Tu]; decide)).1 (wf_ne Tu (wt12_11 hG Tu) (by decide))).2)
            have cq_248 := cdv_kp (f := f_j183) (f1 := f_244) (m := u) (x_247 _ (hWF _ (by rw [wt12_8 hG Tu]; decide)).1 (wf_ne (wt12_8 hG Tu) (wt12_11 hG Tu) (by decide))).2 (mi_kp (x_247 u (hWF u (by rw [Tu]; decide)).1 (wf_ne Tu (wt12_11 hG Tu) (by decide))).2 14)
            have kq_249 := clv_kp (f := f_j183) (f1 := f_244) (m := u) (x_247 _ (hWF _ (by rw [wt12_9 hG Tu]; decide)).1 (wf_ne (wt12_9 hG Tu) (wt12_11 hG Tu) (by decide))).2 (mi_kp (x_247 u (hWF u (by rw [Tu]; decide)).1 (wf_ne Tu (wt12_11 hG Tu) (by decide))).2 14)
            have hTR := hTR.same (f2 := f_244) (x_247 _ (hWF _ (by rw [wt12_6 hG Tu]; decide)).1 (wf_ne (wt12_6 hG Tu) (wt12_11 hG Tu) (by decide))).2 (x_247 _ (hWF _ (by rw [wt12_7 hG Tu]; decide)).1 (wf_ne (wt12_7 hG Tu) (wt12_11 hG Tu) (by decide))).2 (x_247 _ (hWF _ (by rw [wt12_8 hG Tu]; decide)).1 (wf_ne (wt12_8 hG Tu) (wt12_11 hG Tu) (by decide))).2 (mi_kp (x_247 u (hWF u (by rw [Tu]; decide)).1 (wf_ne Tu (wt12_11 hG Tu) (by decide))).2 14) (fun q => by have hz := mi_kp (x_247 u (hWF u (by rw [Tu]; decide)).1 (wf_ne Tu (wt12_11 hG Tu) (by decide))).2 4; omega)
            have hKP := hKP.upd hWF x_247 (wt12_11 hG Tu) (Or.inl (by decide))
            have hi_250 := wf_inu (k := (x_47 : Int32).toNatClampNeg) (x := x_239) hi_242 (wf_free x_239).1 (wf_free x_239).2
            have hWF := wf_upd hWF h_246 x_247 (by rw [(wt12_11 hG Tu)]; exact ⟨_, rfl, hi_250⟩)
            have hr_229 := hr_229.ext x_247 (py_ne_arr hr_229 ha_241)
            have tq_251 := mi_row hr_229 2 rfl
            have tq_252 := mi_row hr_229 3 rfl
            have bv_197 := wf_free v_197
            have tq_253 := mi_row hr_229 4 rfl
            have bv_198 := wf_free v_198
            have tq_254 := mi_row hr_229 5 rfl
            have bv_199 := wf_free v_199
            have tq_255 := mi_row hr_229 14 rfl
            have ha_236 := ha_236.ext x_247 (wf_ne (wt12_10 hG Tu) (wt12_11 hG Tu) (by decide))
            have hX11 := hX11.up ha_241 h_246 (by omega) (by omega)
            have hV11 : arz f_244 (G.2 u 11) (90 * mi f u 14 + clv f G u) = cdv f G u := by rw [show (90 * mi f u 14 + clv f G u) = x_47.toInt by omega, (arz_up ha_241 h_246 (by omega)).1]; omega
            refine lv_iload_n G0.1 G0.2.1 dX12_clause_195 rfl (lv_at hl 0 rfl) ?_
            refine lv_if_eq (tgt := 250) G0.1 G0.2.1 dX12_clause_196 (by decide) (fun c_256 => ?_) (fun c_256 => ?_)
            · skip
              have tc_256 := ti_eq c_256
              refine lv_aload_n G0.1 G0.2.1 dX12_clause_250 rfl (lv_at hl 2 rfl) ?_
              refine py_get (C := RX12) (T := TX12) (N := 54) (k := 12) (v := .ref (G.2 u 12)) G0 hw in_X12_clause_X12 rfl hr_229 (by decide) (by decide +kernel) rfl dX12_clause_251 ?_
              refine lv_iload_n G0.1 G0.2.1 dX12_clause_254 rfl (lv_at hl 1 rfl) ?_
              refine lv_aload_n G0.1 G0.2.1 dX12_clause_255 rfl (lv_at hl 2 rfl) ?_
              refine py_get (C := RX12) (T := TX12) (N := 54) (k := 8) (v := .ref (G.2 u 8)) G0 hw in_X12_clause_X12 rfl hr_229 (by decide) (by decide +kernel) rfl dX12_clause_256 ?_
              refine lv_aload_n G0.1 G0.2.1 dX12_clause_259 rfl (lv_at hl 2 rfl) ?_
              refine py_get (C := RX12) (T := TX12) (N := 54) (k := 14) (v := .int v_201) G0 hw in_X12_clause_X12 rfl hr_229 (by decide) (by decide +kernel) rfl dX12_clause_260 ?_
              obtain ⟨g_257, ha_258, hi_259⟩ := wf_arr (n := 5) (lo := 0) (hi := 340) hWF (wt12_8 hG Tu) (by decide) (fun _ => rfl)
              have rg_260 : vp_in v_201 5 := ti_in (by omega) (by omega)
              refine py_iald G0 hw ha_258 rg_260 dX12_clause_263 ?_
              refine lv_topi (fun x_261 ex_261 => ?_)
              have bx_261 := ti_at hi_259 rg_260 ex_261
              have zx_261 := arz_ld ha_258 ex_261
              have hcxx_261 := cdv_ld hr_229 rfl ha_258 ex_261
              obtain ⟨g_262, ha_263, hi_264⟩ := wf_arr (n := 450) (lo := (-2147483648)) (hi := 2147483647) hWF (wt12_12 hG Tu) (by decide) (fun _ => rfl)
              have rg_265 : vp_in x_47 450 := ti_in (by omega) (by omega)
              refine py_iast G0 hw ha_263 rg_265 dX12_clause_264 (fun f_266 H_267 locs h_268 x_269 hw => ?_)
              have hkw : KP G [47] false f_244 f_266 := KP.refl.upd hWF x_269 (wt12_12 hG Tu) (Or.inl (by decide))
              have hX9 := hX9.same ((x_269 _ (hWF _ (by rw [wt12_9 hG Tu]; decide)).1 (wf_ne (wt12_9 hG Tu) (wt12_12 hG Tu) (by decide))).2)
              have hX10 := hX10.same ((x_269 _ (hWF _ (by rw [wt12_10 hG Tu]; decide)).1 (wf_ne (wt12_10 hG Tu) (wt12_12 hG Tu) (by decide))).2)
              have hX11 := hX11.same ((x_269 _ (hWF _ (by rw [wt12_11 hG Tu]; decide)).1 (wf_ne (wt12_11 hG Tu) (wt12_12 hG Tu) (by decide))).2)
              have hV10 := (arz_kp ((x_269 _ (hWF _ (by rw [wt12_10 hG Tu]; decide)).1 (wf_ne (wt12_10 hG Tu) (wt12_12 hG Tu) (by decide))).2) _).trans hV10
              have hV11 := (arz_kp ((x_269 _ (hWF _ (by rw [wt12_11 hG Tu]; decide)).1 (wf_ne (wt12_11 hG Tu) (wt12_12 hG Tu) (by decide))).2) _).trans hV11
              have hFK := hFK.same ((x_269 _ (hWF _ (by rw [Tu]; decide)).1 (wf_ne Tu (wt12_12 hG Tu) (by decide))).2)
              have cq_270 := cdv_kp (f := f_244) (f1 := f_266) (m := u) (x_269 _ (hWF _ (by rw [wt12_8 hG Tu]; decide)).1 (wf_ne (wt12_8 hG Tu) (wt12_12 hG Tu) (by decide))).2 (mi_kp (x_269 u (hWF u (by rw [Tu]; decide)).1 (wf_ne Tu (wt12_12 hG Tu) (by decide))).2 14)
              have kq_271 := clv_kp (f := f_244) (f1 := f_266) (m := u) (x_269 _ (hWF _ (by rw [wt12_9 hG Tu]; decide)).1 (wf_ne (wt12_9 hG Tu) (wt12_12 hG Tu) (by decide))).2 (mi_kp (x_269 u (hWF u (by rw [Tu]; decide)).1 (wf_ne Tu (wt12_12 hG Tu) (by decide))).2 14)
              have hTR := hTR.same (f2 := f_266) (x_269 _ (hWF _ (by rw [wt12_6 hG Tu]; decide)).1 (wf_ne (wt12_6 hG Tu) (wt12_12 hG Tu) (by decide))).2 (x_269 _ (hWF _ (by rw [wt12_7 hG Tu]; decide)).1 (wf_ne (wt12_7 hG Tu) (wt12_12 hG Tu) (by decide))).2 (x_269 _ (hWF _ (by rw [wt12_8 hG Tu]; decide)).1 (wf_ne (wt12_8 hG Tu) (wt12_12 hG Tu) (by decide))).2 (mi_kp (x_269 u (hWF u (by rw [Tu]; decide)).1 (wf_ne Tu (wt12_12 hG Tu) (by decide))).2 14) (fun q => by have hz := mi_kp (x_269 u (hWF u (by rw [Tu]; decide)).1 (wf_ne Tu (wt12_12 hG Tu) (by decide))).2 4; omega)
              have hKP := hKP.upd hWF x_269 (wt12_12 hG Tu) (Or.inl (by decide))
              have hi_272 := wf_inu (k := (x_47 : Int32).toNatClampNeg) (x := x_261) hi_264 (wf_free x_261).1 (wf_free x_261).2
              have hWF := wf_upd hWF h_268 x_269 (by rw [(wt12_12 hG Tu)]; exact ⟨_, rfl, hi_272⟩)
              have hr_229 := hr_229.ext x_269 (py_ne_arr hr_229 ha_263)
              have tq_273 := mi_row hr_229 2 rfl
              have tq_274 := mi_row hr_229 3 rfl
              have bv_197 := wf_free v_197
              have tq_275 := mi_row hr_229 4 rfl
              have bv_198 := wf_free v_198
              have tq_276 := mi_row hr_229 5 rfl
              have bv_199 := wf_free v_199
              have tq_277 := mi_row hr_229 14 rfl
              have h_246 := h_246.ext x_269 (wf_ne (wt12_11 hG Tu) (wt12_12 hG Tu) (by decide))
              have ha_236 := ha_236.ext x_269 (wf_ne (wt12_10 hG Tu) (wt12_12 hG Tu) (by decide))
              have ha_258 := ha_258.ext x_269 (wf_ne (wt12_8 hG Tu) (wt12_12 hG Tu) (by decide))
              have hX12 := hX12.up ha_263 h_268 (by omega) (by omega)
              have hV12 : arz f_266 (G.2 u 12) (90 * mi f u 14 + clv f G u) = cdv f_266 G u := by rw [show (90 * mi f u 14 + clv f G u) = x_47.toInt by omega, (arz_up ha_263 h_268 (by omega)).1]; omega
              refine lv_aload_n G0.1 G0.2.1 dX12_clause_265 rfl (lv_at hl 2 rfl) ?_
              refine py_get (C := RX12) (T := TX12) (N := 54) (k := 9) (v := .ref (G.2 u 9)) G0 hw in_X12_clause_X12 rfl hr_229 (by decide) (by decide +kernel) rfl dX12_clause_266 ?_
              refine lv_aload_n G0.1 G0.2.1 dX12_clause_269 rfl (lv_at hl 2 rfl) ?_
              refine py_get (C := RX12) (T := TX12) (N := 54) (k := 14) (v := .int v_201) G0 hw in_X12_clause_X12 rfl hr_229 (by decide) (by decide +kernel) rfl dX12_clause_270 ?_
              refine lv_dup2_11 G0.1 G0.2.1 dX12_clause_273 rfl rfl ?_
              obtain ⟨g_278, ha_279, hi_280⟩ := wf_arr (n := 5) (lo := 0) (hi := 90) hWF (wt12_9 hG Tu) (by decide) (fun _ => rfl)
              have rg_281 : vp_in v_201 5 := ti_in (by omega) (by omega)
              refine py_iald G0 hw ha_279 rg_281 dX12_clause_274 ?_
              refine lv_topi (fun x_282 ex_282 => ?_)
              have bx_282 := ti_at hi_280 rg_281 ex_282
              have zx_282 := arz_ld ha_279 ex_282
              have hkxx_282 := clv_ld hr_229 rfl ha_279 ex_282
              refine lv_iconst (v := 1) G0.1 G0.2.1 dX12_clause_275 (by decide) ?_
              refine lv_iadd G0.1 G0.2.1 dX12_clause_276 ?_
              refine lv_topi (fun x_283 ex_283 => ?_)
              first | have tx_283 := ti_add ex_283 (by omega -splitDisjunctions) (by omega -splitDisjunctions) | skip
              have rg_284 : vp_in v_201 5 := ti_in (by omega) (by omega)
              refine py_iast G0 hw ha_279 rg_284 dX12_clause_277 (fun f_285 H_286 locs h_287 x_288 hw => ?_)
              have hkw : KP G [44] false f_266 f_285 := KP.refl.upd hWF x_288 (wt12_9 hG Tu) (Or.inl (by decide))
              have hX10 := hX10.same ((x_288 _ (hWF _ (by rw [wt12_10 hG Tu]; decide)).1 (wf_ne (wt12_10 hG Tu) (wt12_9 hG Tu) (by decide))).2)
              have hX11 := hX11.same ((x_288 _ (hWF _ (by rw [wt12_11 hG Tu]; decide)).1 (wf_ne (wt12_11 hG Tu) (wt12_9 hG Tu) (by decide))).2)
              have hX12 := hX12.same ((x_288 _ (hWF _ (by rw [wt12_12 hG Tu]; decide)).1 (wf_ne (wt12_12 hG Tu) (wt12_9 hG Tu) (by decide))).2)
              have hV10 := (arz_kp ((x_288 _ (hWF _ (by rw [wt12_10 hG Tu]; decide)).1 (wf_ne (wt12_10 hG Tu) (wt12_9 hG Tu) (by decide))).2) _).trans hV10
              have hV11 := (arz_kp ((x_288 _ (hWF _ (by rw [wt12_11 hG Tu]; decide)).1 (wf_ne (wt12_11 hG Tu) (wt12_9 hG Tu) (by decide))).2) _).trans hV11
              have hV12 := (arz_kp ((x_288 _ (hWF _ (by rw [wt12_12 hG Tu]; decide)).1 (wf_ne (wt12_12 hG Tu) (wt12_9 hG Tu) (by decide))).2) _).trans hV12
              have hFK := hFK.same ((x_288 _ (hWF _ (by rw [Tu]; decide)).1 (wf_ne Tu (wt12_9 hG Tu) (by decide))).2)
              have cq_289 := cdv_kp (f := f_266) (f1 := f_285) (m := u) (x_288 _ (hWF _ (by rw [wt12_8 hG Tu]; decide)).1 (wf_ne (wt12_8 hG Tu) (wt12_9 hG Tu) (by decide))).2 (mi_kp (x_288 u (hWF u (by rw [Tu]; decide)).1 (wf_ne Tu (wt12_9 hG Tu) (by decide))).2 14)
              have hTR := hTR.same (f2 := f_285) (x_288 _ (hWF _ (by rw [wt12_6 hG Tu]; decide)).1 (wf_ne (wt12_6 hG Tu) (wt12_9 hG Tu) (by decide))).2 (x_288 _ (hWF _ (by rw [wt12_7 hG Tu]; decide)).1 (wf_ne (wt12_7 hG Tu) (wt12_9 hG Tu) (by decide))).2 (x_288 _ (hWF _ (by rw [wt12_8 hG Tu]; decide)).1 (wf_ne (wt12_8 hG Tu) (wt12_9 hG Tu) (by decide))).2 (mi_kp (x_288 u (hWF u (by rw [Tu]; decide)).1 (wf_ne Tu (wt12_9 hG Tu) (by decide))).2 14) (fun q => by have hz := mi_kp (x_288 u (hWF u (by rw [Tu]; decide)).1 (wf_ne Tu (wt12_9 hG Tu) (by decide))).2 4; omega)
              have hKP := hKP.upd hWF x_288 (wt12_9 hG Tu) (Or.inl (by decide))
              have hi_290 := wf_inu (k := (v_201 : Int32).toNatClampNeg) (x := x_283) hi_280 (by omega) (by omega)
              have hWF := wf_upd hWF h_287 x_288 (by rw [(wt12_9 hG Tu)]; exact ⟨_, rfl, hi_290⟩)
              have hr_229 := hr_229.ext x_288 (py_ne_arr hr_229 ha_279)
              have tq_291 := mi_row hr_229 2 rfl
              have tq_292 := mi_row hr_229 3 rfl
              have bv_197 := wf_free v_197
              have tq_293 := mi_row hr_229 4 rfl
              have bv_198 := wf_free v_198
              have tq_294 := mi_row hr_229 5 rfl
              have bv_199 := wf_free v_199
              have tq_295 := mi_row hr_229 14 rfl
              have h_268 := h_268.ext x_288 (wf_ne (wt12_12 hG Tu) (wt12_9 hG Tu) (by decide))
              have h_246 := h_246.ext x_288 (wf_ne (wt12_11 hG Tu) (wt12_9 hG Tu) (by decide))
              have ha_236 := ha_236.ext x_288 (wf_ne (wt12_10 hG Tu) (wt12_9 hG Tu) (by decide))
              have ha_258 := ha_258.ext x_288 (wf_ne (wt12_8 hG Tu) (wt12_9 hG Tu) (by decide))
              have hX9 := hX9.up ha_279 h_287 (by omega) (by omega)
              have hkn : clv f_285 G u = x_283.toInt := by unfold clv; rw [mi_kp (x_288 u (hWF u (by rw [Tu]; decide)).1 (wf_ne Tu (wt12_9 hG Tu) (by decide))).2 14, mi_row hr_229 14 rfl]; exact (arz_up ha_279 h_287 (by omega)).1
              exact py_vret G0 hr hlk hw ⟨(by first | omega | (intro q; omega)), (by first | omega | (intro q; omega)), (by first | omega | (intro q; omega)), ⟨hTR.tp, hX10, hX11, hX12, hX9, by omega⟩, (fun hw => by first | exact absurd hw (by omega) | exact ⟨co_a hTR hw (by omega) (by omega) (by omega) (by omega), by omega⟩), hWF, hKP, hFK⟩ dX12_clause_278
            · skip
              have tc_256 := ti_ne c_256
              refine lv_aload_n G0.1 G0.2.1 dX12_clause_199 rfl (lv_at hl 2 rfl) ?_
              refine py_get (C := RX12) (T := TX12) (N := 54) (k := 4) (v := .int v_198) G0 hw in_X12_clause_X12 rfl hr_229 (by decide) (by decide +kernel) rfl dX12_clause_200 ?_
              refine lv_iconst (v := (-1)) G0.1 G0.2.1 dX12_clause_203 (by decide) ?_
              refine lv_icmp_ne (tgt := 250) G0.1 G0.2.1 dX12_clause_204 (by decide) (fun c_296 => ?_) (fun c_296 => ?_)
              · skip
                have tc_296 := ti_ne c_296
                refine lv_aload_n G0.1 G0.2.1 dX12_clause_250 rfl (lv_at hl 2 rfl) ?_
                refine py_get (C := RX12) (T := TX12) (N := 54) (k := 12) (v := .ref (G.2 u 12)) G0 hw in_X12_clause_X12 rfl hr_229 (by decide) (by decide +kernel) rfl dX12_clause_251 ?_
                refine lv_iload_n G0.1 G0.2.1 dX12_clause_254 rfl (lv_at hl 1 rfl) ?_
                refine lv_aload_n G0.1 G0.2.1 dX12_clause_255 rfl (lv_at hl 2 rfl) ?_
                refine py_get (C := RX12) (T := TX12) (N := 54) (k := 8) (v := .ref (G.2 u 8)) G0 hw in_X12_clause_X12 rfl hr_229 (by decide) (by decide +kernel) rfl dX12_clause_256 ?_
                refine lv_aload_n G0.1 G0.2.1 dX12_clause_259 rfl (lv_at hl 2 rfl) ?_
                refine py_get (C := RX12) (T := TX12) (N := 54) (k := 14) (v := .int v_201) G0 hw in_X12_clause_X12 rfl hr_229 (by decide) (by decide +kernel) rfl dX12_clause_260 ?_
                obtain ⟨g_297, ha_298, hi_299⟩ := wf_arr (n := 5) (lo := 0) (hi := 340) hWF (wt12_8 hG Tu) (by decide) (fun _ => rfl)
                have rg_300 : vp_in v_201 5 := ti_in (by omega) (by omega)
                refine py_iald G0 hw ha_298 rg_300 dX12_clause_263 ?_
                refine lv_topi (fun x_301 ex_301 => ?_)
                have bx_301 := ti_at hi_299 rg_300 ex_301
                have zx_301 := arz_ld ha_298 ex_301
                have hcxx_301 := cdv_ld hr_229 rfl ha_298 ex_301
                obtain ⟨g_302, ha_303, hi_304⟩ := wf_arr (n := 450) (lo := (-2147483648)) (hi := 2147483647) hWF (wt12_12 hG Tu) (by decide) (fun _ => rfl)
                have rg_305 : vp_in x_47 450 := ti_in (by omega) (by omega)
                refine py_iast G0 hw ha_303 rg_305 dX12_clause_264 (fun f_306 H_307 locs h_308 x_309 hw => ?_)
                have hkw : KP G [47] false f_244 f_306 := KP.refl.upd hWF x_309 (wt12_12 hG Tu) (Or.inl (by decide))
                have hX9 := hX9.same ((x_309 _ (hWF _ (by rw [wt12_9 hG Tu]; decide)).1 (wf_ne (wt12_9 hG Tu) (wt12_12 hG Tu) (by decide))).2)
                have hX10 := hX10.same ((x_309 _ (hWF _ (by rw [wt12_10 hG Tu]; decide)).1 (wf_ne (wt12_10 hG Tu) (wt12_12 hG Tu) (by decide))).2)
                have hX11 := hX11.same ((x_309 _ (hWF _ (by rw [wt12_11 hG Tu]; decide)).1 (wf_ne (wt12_11 hG Tu) (wt12_12 hG Tu) (by decide))).2)
                have hV10 := (arz_kp ((x_309 _ (hWF _ (by rw [wt12_10 hG Tu]; decide)).1 (wf_ne (wt12_10 hG Tu) (wt12_12 hG Tu) (by decide))).2) _).trans hV10
                have hV11 := (arz_kp ((x_309 _ (hWF _ (by rw [wt12_11 hG Tu]; decide)).1 (wf_ne (wt12_11 hG Tu) (wt12_12 hG Tu) (by decide))).2) _).trans hV11
                have hFK := hFK.same ((x_309 _ (hWF _ (by rw [Tu]; decide)).1 (wf_ne Tu (wt12_12 hG Tu) (by decide))).2)
                have cq_310 := cdv_kp (f := f_244) (f1 := f_306) (m := u) (x_309 _ (hWF _ (by rw [wt12_8 hG Tu]; decide)).1 (wf_ne (wt12_8 hG Tu) (wt12_12 hG Tu) (by decide))).2 (mi_kp (x_309 u (hWF u (by rw [Tu]; decide)).1 (wf_ne Tu (wt12_12 hG Tu) (by decide))).2 14)
                have kq_311 := clv_kp (f := f_244) (f1 := f_306) (m := u) (x_309 _ (hWF _ (by rw [wt12_9 hG Tu]; decide)).1 (wf_ne (wt12_9 hG Tu) (wt12_12 hG Tu) (by decide))).2 (mi_kp (x_309 u (hWF u (by rw [Tu]; decide)).1 (wf_ne Tu (wt12_12 hG Tu) (by decide))).2 14)
                have hTR := hTR.same (f2 := f_306) (x_309 _ (hWF _ (by rw [wt12_6 hG Tu]; decide)).1 (wf_ne (wt12_6 hG Tu) (wt12_12 hG Tu) (by decide))).2 (x_309 _ (hWF _ (by rw [wt12_7 hG Tu]; decide)).1 (wf_ne (wt12_7 hG Tu) (wt12_12 hG Tu) (by decide))).2 (x_309 _ (hWF _ (by rw [wt12_8 hG Tu]; decide)).1 (wf_ne (wt12_8 hG Tu) (wt12_12 hG Tu) (by decide))).2 (mi_kp (x_309 u (hWF u (by rw [Tu]; decide)).1 (wf_ne Tu (wt12_12 hG Tu) (by decide))).2 14) (fun q => by have hz := mi_kp (x_309 u (hWF u (by rw [Tu]; decide)).1 (wf_ne Tu (wt12_12 hG Tu) (by decide))).2 4; omega)
                have hKP := hKP.upd hWF x_309 (wt12_12 hG Tu) (Or.inl (by decide))
                have hi_312 := wf_inu (k := (x_47 : Int32).toNatClampNeg) (x := x_301) hi_304 (wf_free x_301).1 (wf_free x_301).2
                have hWF := wf_upd hWF h_308 x_309 (by rw [(wt12_12 hG Tu)]; exact ⟨_, rfl, hi_312⟩)
                have hr_229 := hr_229.ext x_309 (py_ne_arr hr_229 ha_303)
                have tq_313 := mi_row hr_229 2 rfl
                have tq_314 := mi_row hr_229 3 rfl
                have bv_197 := wf_free v_197
                have tq_315 := mi_row hr_229 4 rfl
                have bv_198 := wf_free v_198
                have tq_316 := mi_row hr_229 5 rfl
                have bv_199 := wf_free v_199
                have tq_317 := mi_row hr_229 14 rfl
                have h_246 := h_246.ext x_309 (wf_ne (wt12_11 hG Tu) (wt12_12 hG Tu) (by decide))
                have ha_236 := ha_236.ext x_309 (wf_ne (wt12_10 hG Tu) (wt12_12 hG Tu) (by decide))
                have ha_298 := ha_298.ext x_309 (wf_ne (wt12_8 hG Tu) (wt12_12 hG Tu) (by decide))
                have hX12 := hX12.up ha_303 h_308 (by omega) (by omega)
                have hV12 : arz f_306 (G.2 u 12) (90 * mi f u 14 + clv f G u) = cdv f_306 G u := by rw [show (90 * mi f u 14 + clv f G u) = x_47.toInt by omega, (arz_up ha_303 h_308 (by omega)).1]; omega
                refine lv_aload_n G0.1 G0.2.1 dX12_clause_265 rfl (lv_at hl 2 rfl) ?_
                refine py_get (C := RX12) (T := TX12) (N := 54) (k := 9) (v := .ref (G.2 u 9)) G0 hw in_X12_clause_X12 rfl hr_229 (by decide) (by decide +kernel) rfl dX12_clause_266 ?_
                refine lv_aload_n G0.1 G0.2.1 dX12_clause_269 rfl (lv_at hl 2 rfl) ?_
                refine py_get (C := RX12) (T := TX12) (N := 54) (k := 14) (v := .int v_201) G0 hw in_X12_clause_X12 rfl hr_229 (by decide) (by decide +kernel) rfl dX12_clause_270 ?_
                refine lv_dup2_11 G0.1 G0.2.1 dX12_clause_273 rfl rfl ?_
                obtain ⟨g_318, ha_319, hi_320⟩ := wf_arr (n := 5) (lo := 0) (hi := 90) hWF (wt12_9 hG Tu) (by decide) (fun _ => rfl)
                have rg_321 : vp_in v_201 5 := ti_in (by omega) (by omega)
                refine py_iald G0 hw ha_319 rg_321 dX12_clause_274 ?_
                refine lv_topi (fun x_322 ex_322 => ?_)
                have bx_322 := ti_at hi_320 rg_321 ex_322
                have zx_322 := arz_ld ha_319 ex_322
                have hkxx_322 := clv_ld hr_229 rfl ha_319 ex_322
                refine lv_iconst (v := 1) G0.1 G0.2.1 dX12_clause_275 (by decide) ?_
                refine lv_iadd G0.1 G0.2.1 dX12_clause_276 ?_
                refine lv_topi (fun x_323 ex_323 => ?_)
                first | have tx_323 := ti_add ex_323 (by omega -splitDisjunctions) (by omega -splitDisjunctions) | skip
                have rg_324 : vp_in v_201 5 := ti_in (by omega) (by omega)
                refine py_iast G0 hw ha_319 rg_324 dX12_clause_277 (fun f_325 H_326 locs h_327 x_328 hw => ?_)
                have hkw : KP G [44] false f_306 f_325 := KP.refl.upd hWF x_328 (wt12_9 hG Tu) (Or.inl (by decide))
                have hX10 := hX10.same ((x_328 _ (hWF _ (by rw [wt12_10 hG Tu]; decide)).1 (wf_ne (wt12_10 hG Tu) (wt12_9 hG Tu) (by decide))).2)
                have hX11 := hX11.same ((x_328 _ (hWF _ (by rw [wt12_11 hG Tu]; decide)).1 (wf_ne (wt12_11 hG Tu) (wt12_9 hG Tu) (by decide))).2)
                have hX12 := hX12.same ((x_328 _ (hWF _ (by rw [wt12_12 hG Tu]; decide)).1 (wf_ne (wt12_12 hG Tu) (wt12_9 hG Tu) (by decide))).2)
                have hV10 := (arz_kp ((x_328 _ (hWF _ (by rw [wt12_10 hG Tu]; decide)).1 (wf_ne (wt12_10 hG Tu) (wt12_9 hG Tu) (by decide))).2) _).trans hV10
                have hV11 := (arz_kp ((x_328 _ (hWF _ (by rw [wt12_11 hG Tu]; decide)).1 (wf_ne (wt12_11 hG Tu) (wt12_9 hG Tu) (by decide))).2) _).trans hV11
                have hV12 := (arz_kp ((x_328 _ (hWF _ (by rw [wt12_12 hG Tu]; decide)).1 (wf_ne (wt12_12 hG Tu) (wt12_9 hG Tu) (by decide))).2) _).trans hV12
                have hFK := hFK.same ((x_328 _ (hWF _ (by rw [Tu]; decide)).1 (wf_ne Tu (wt12_9 hG Tu) (by decide))).2)
                have cq_329 := cdv_kp (f := f_306) (f1 := f_325) (m := u) (x_328 _ (hWF _ (by rw [wt12_8 hG Tu]; decide)).1 (wf_ne (wt12_8 hG Tu) (wt12_9 hG Tu) (by decide))).2 (mi_kp (x_328 u (hWF u (by rw [Tu]; decide)).1 (wf_ne Tu (wt12_9 hG Tu) (by decide))).2 14)
                have hTR := hTR.same (f2 := f_325) (x_328 _ (hWF _ (by rw [wt12_6 hG Tu]; decide)).1 (wf_ne (wt12_6 hG Tu) (wt12_9 hG Tu) (by decide))).2 (x_328 _ (hWF _ (by rw [wt12_7 hG Tu]; decide)).1 (wf_ne (wt12_7 hG Tu) (wt12_9 hG Tu) (by decide))).2 (x_328 _ (hWF _ (by rw [wt12_8 hG Tu]; decide)).1 (wf_ne (wt12_8 hG Tu) (wt12_9 hG Tu) (by decide))).2 (mi_kp (x_328 u (hWF u (by rw [Tu]; decide)).1 (wf_ne Tu (wt12_9 hG Tu) (by decide))).2 14) (fun q => by have hz := mi_kp (x_328 u (hWF u (by rw [Tu]; decide)).1 (wf_ne Tu (wt12_9 hG Tu) (by decide))).2 4; omega)
                have hKP := hKP.upd hWF x_328 (wt12_9 hG Tu) (Or.inl (by decide))
                have hi_330 := wf_inu (k := (v_201 : Int32).toNatClampNeg) (x := x_323) hi_320 (by omega) (by omega)
                have hWF := wf_upd hWF h_327 x_328 (by rw [(wt12_9 hG Tu)]; exact ⟨_, rfl, hi_330⟩)
                have hr_229 := hr_229.ext x_328 (py_ne_arr hr_229 ha_319)
                have tq_331 := mi_row hr_229 2 rfl
                have tq_332 := mi_row hr_229 3 rfl
                have bv_197 := wf_free v_197
                have tq_333 := mi_row hr_229 4 rfl
                have bv_198 := wf_free v_198
                have tq_334 := mi_row hr_229 5 rfl
                have bv_199 := wf_free v_199
                have tq_335 := mi_row hr_229 14 rfl
                have h_308 := h_308.ext x_328 (wf_ne (wt12_12 hG Tu) (wt12_9 hG Tu) (by decide))
                have h_246 := h_246.ext x_328 (wf_ne (wt12_11 hG Tu) (wt12_9 hG Tu) (by decide))
                have ha_236 := ha_236.ext x_328 (wf_ne (wt12_10 hG Tu) (wt12_9 hG Tu) (by decide))
                have ha_298 := ha_298.ext x_328 (wf_ne (wt12_8 hG Tu) (wt12_9 hG Tu) (by decide))
                have hX9 := hX9.up ha_319 h_327 (by omega) (by omega)
                have hkn : clv f_325 G u = x_323.toInt := by unfold clv; rw [mi_kp (x_328 u (hWF u (by rw [Tu]; decide)).1 (wf_ne Tu (wt12_9 hG Tu) (by decide))).2 14, mi_row hr_229 14 rfl]; exact (arz_up ha_319 h_327 (by omega)).1
                exact py_vret G0 hr hlk hw ⟨(by first | omega | (intro q; omega)), (by first | omega | (intro q; omega)), (by first | omega | (intro q; omega)), ⟨hTR.tp, hX10, hX11, hX12, hX9, by omega⟩, (fun hw => by first | exact absurd hw (by omega) | exact ⟨co_a hTR hw (by omega) (by omega) (by omega) (by omega), by omega⟩), hWF, hKP, hFK⟩ dX12_clause_278
              · skip
                have tc_296 := ti_eq c_296
                refine lv_aload_n G0.1 G0.2.1 dX12_clause_207 rfl (lv_at hl 2 rfl) ?_
                refine py_calli hw (va_runV (As := []) (rest := []) G0 (c_X12_look l E G L_j183 f_244 H_245.size u hG hWF Tu (show 0 ≤ mi f_244 u 3 ∧ mi f_244 u 3 ≤ mi f_244 u 2 by omega)) (cwV 0 G0.2.2.2.2 g_X12_clause_X12_look_146 rfl rfl rfl (by decide +kernel) ⟨(Nat.le_of_ble_eq_true rfl), (Nat.le_of_ble_eq_true rfl)⟩) (py_preV hw (C := RX12) (T := TX12) (N := 54) rfl hr_229) rfl rfl hl.1 rfl (lv_room (Nat.le_of_ble_eq_true rfl)) dX12_clause_208 ⟨(Nat.le_of_ble_eq_true rfl), (Nat.le_of_ble_eq_true rfl)⟩) (fun r_340 L_336 f_337 H_338 locs hp_339 hw => ?_)
                obtain ⟨en_341, en_342, en_343, hWF, kp_344, fk_345⟩ := hp_339
                have hX9 := hX9.same (kp_f kp_344 (wt12_9 hG Tu) (by decide) (by decide) (fun _ => by decide))
                have hX10 := hX10.same (kp_f kp_344 (wt12_10 hG Tu) (by decide) (by decide) (fun _ => by decide))
                have hX11 := hX11.same (kp_f kp_344 (wt12_11 hG Tu) (by decide) (by decide) (fun _ => by decide))
                have hX12 := hX12.same (kp_f kp_344 (wt12_12 hG Tu) (by decide) (by decide) (fun _ => by decide))
                have hV10 := (arz_kp (kp_f kp_344 (wt12_10 hG Tu) (by decide) (by decide) (fun _ => by decide)) _).trans hV10
                have hV11 := (arz_kp (kp_f kp_344 (wt12_11 hG Tu) (by decide) (by decide) (fun _ => by decide)) _).trans hV11
                have cq_346 := cdv_k hG Tu kp_344 fk_345 (by decide)
                have kq_347 := clv_k hG Tu kp_344 fk_345 (by decide)
                have hFK := hFK.trans fk_345 (by decide)
                have hKP := hKP.trans kp_344 (by decide) (by decide)
                obtain ⟨v_348, hr_349⟩ := fk_3 hWF Tu fk_345 hr_229
                have tq_350 := mi_row hr_349 2 rfl
                have tq_351 := mi_row hr_349 3 rfl
                have bv_348 := wf_free v_348
                have tq_352 := mi_row hr_349 4 rfl
                have bv_198 := wf_free v_198
                have tq_353 := mi_row hr_349 5 rfl
                have bv_199 := wf_free v_199
                have tq_354 := mi_row hr_349 14 rfl
                have h_246 := kp_at kp_344 hWF (wt12_11 hG Tu) (by decide) (by decide) (by decide) h_246
                have ha_236 := kp_at kp_344 hWF (wt12_10 hG Tu) (by decide) (by decide) (by decide) ha_236
                have hTR := hTR.kp hG Tu kp_344 fk_345 (by decide) (fun q => by omega)
                have br_340 := wf_free r_340
                refine lv_bipush (v := 63) G0.1 G0.2.1 dX12_clause_211 (by decide) ?_
                refine lv_icmp_eq (tgt := 221) G0.1 G0.2.1 dX12_clause_213 (by decide) (fun c_355 => ?_) (fun c_355 => ?_)
                · skip
                  have tc_355 := ti_eq c_355
                  replace en_342 := en_342 (by omega)
                  refine lv_aload_n G0.1 G0.2.1 dX12_clause_221 rfl (lv_at hl 2 rfl) ?_
                  refine lv_dup G0.1 G0.2.1 dX12_clause_222 rfl ?_
                  refine py_get (C := RX12) (T := TX12) (N := 54) (k := 3) (v := .int v_348) G0 hw in_X12_clause_X12 rfl hr_349 (by decide) (by decide +kernel) rfl dX12_clause_223 ?_
                  refine lv_iconst (v := 1) G0.1 G0.2.1 dX12_clause_226 (by decide) ?_
                  refine lv_iadd G0.1 G0.2.1 dX12_clause_227 ?_
                  refine lv_topi (fun x_356 ex_356 => ?_)
                  first | have tx_356 := ti_add ex_356 (by omega -splitDisjunctions) (by omega -splitDisjunctions) | skip
                  refine py_put (C := RX12) (T := TX12) (N := 54) (k := 3) (v := .int x_356) (fs' := [.int v_195, .ref (G.2 u 1), .int v_196, .int x_356, .int v_198, .int v_199, .ref (G.2 u 6), .ref (G.2 u 7), .ref (G.2 u 8), .ref (G.2 u 9), .ref (G.2 u 10), .ref (G.2 u 11), .ref (G.2 u 12), .int v_200, .int v_201, .ref (G.2 u 15), .ref (G.2 u 16), .ref (G.2 u 17), .ref (G.2 u 18), .int v_202, .int v_203, .ref (G.2 u 21), .ref (G.2 u 22), .ref (G.2 u 23), .int v_204, .int v_205, .ref (G.2 u 26), .ref (G.2 u 27), .ref (G.2 u 28), .int v_206, .long y_207, .int v_208, .int v_209, .int v_210, .int v_211, .ref (G.2 u 35), .ref (G.2 u 36), .ref (G.2 u 37), .ref (G.2 u 38), .ref (G.2 u 39), .ref (G.2 u 40), .ref (G.2 u 41), .ref (G.2 u 42), .int v_212, .ref (G.2 u 44), .ref (G.2 u 45), .ref (G.2 u 46), .ref (G.2 u 47), .long y_213, .ref (G.2 u 49), .ref (G.2 u 50), .int v_214, .long y_215, .int v_216]) (ty0 := tyX12) G0 hw tyX12_ok nmX12 in_X12_clause_X12 rfl hr_349 (by decide) (by decide +kernel) rfl rfl rfl rfl (Nat.le_of_ble_eq_true rfl) rfl dX12_clause_228 (fun f_357 H_358 locs h_359 x_360 hw => ?_)
                  have hX9 := hX9.same ((x_360 _ (hWF _ (by rw [wt12_9 hG Tu]; decide)).1 (wf_ne (wt12_9 hG Tu) Tu (by decide))).2)
                  have hX10 := hX10.same ((x_360 _ (hWF _ (by rw [wt12_10 hG Tu]; decide)).1 (wf_ne (wt12_10 hG Tu) Tu (by decide))).2)
                  have hX11 := hX11.same ((x_360 _ (hWF _ (by rw [wt12_11 hG Tu]; decide)).1 (wf_ne (wt12_11 hG Tu) Tu (by decide))).2)
                  have hX12 := hX12.same ((x_360 _ (hWF _ (by rw [wt12_12 hG Tu]; decide)).1 (wf_ne (wt12_12 hG Tu) Tu (by decide))).2)
                  have hV10 := (arz_kp ((x_360 _ (hWF _ (by rw [wt12_10 hG Tu]; decide)).1 (wf_ne (wt12_10 hG Tu) Tu (by decide))).2) _).trans hV10
                  have hV11 := (arz_kp ((x_360 _ (hWF _ (by rw [wt12_11 hG Tu]; decide)).1 (wf_ne (wt12_11 hG Tu) Tu (by decide))).2) _).trans hV11
                  have hFK := hFK.put hr_349 h_359 3 (by decide) rfl
                  have cq_361 := cdv_own (f1 := f_337) (f2 := f_357) hG hWF Tu x_360 (by have z1 := mi_row hr_349 14 rfl; have z2 := mi_row h_359 14 rfl; omega)
                  have hTR := hTR.own hG hWF Tu x_360 (by have z1 := mi_row hr_349 14 rfl; have z2 := mi_row h_359 14 rfl; omega) (by intro q; have z1 := mi_row hr_349 4 rfl; have z2 := mi_row h_359 4 rfl; omega)
                  have kq_362 := clv_own (f1 := f_337) (f2 := f_357) hG hWF Tu x_360 (by have z1 := mi_row hr_349 14 rfl; have z2 := mi_row h_359 14 rfl; omega)
                  have hKP := hKP.upd hWF x_360 Tu (Or.inl (by decide))
                  have hWF := wf_upd hWF h_359 x_360 (by rw [Tu]; exact ⟨v_195, v_196, x_356, v_198, v_199, v_200, v_201, v_202, v_203, v_204, v_205, v_206, y_207, v_208, v_209, v_210, v_211, v_212, y_213, v_214, y_215, v_216, rfl, ⟨by omega, by omega⟩, ⟨by omega, by omega⟩, ⟨by omega, by omega⟩, ⟨by omega, by omega⟩, ⟨by omega, by omega⟩, ⟨by omega, by omega⟩, ⟨by omega, by omega⟩, ⟨by omega, by omega⟩, ⟨by omega, by omega⟩, ⟨by omega, by omega⟩, ⟨by omega, by omega⟩, ⟨by omega, by omega⟩⟩)
                  have h_246 := h_246.ext x_360 (Ne.symm (py_ne_arr hr_349 h_246))
                  have ha_236 := ha_236.ext x_360 (Ne.symm (py_ne_arr hr_349 ha_236))
                  have tq_363 := mi_row h_359 2 rfl
                  have tq_364 := mi_row h_359 3 rfl
                  have bx_356 := wf_free x_356
                  have tq_365 := mi_row h_359 4 rfl
                  have bv_198 := wf_free v_198
                  have tq_366 := mi_row h_359 5 rfl
                  have bv_199 := wf_free v_199
                  have tq_367 := mi_row h_359 14 rfl
                  refine lv_aload_n G0.1 G0.2.1 dX12_clause_231 rfl (lv_at hl 2 rfl) ?_
                  refine py_get (C := RX12) (T := TX12) (N := 54) (k := 11) (v := .ref (G.2 u 11)) G0 hw in_X12_clause_X12 rfl h_359 (by decide) (by decide +kernel) rfl dX12_clause_232 ?_
                  refine lv_iload_n G0.1 G0.2.1 dX12_clause_235 rfl (lv_at hl 1 rfl) ?_
                  refine lv_aload_n G0.1 G0.2.1 dX12_clause_236 rfl (lv_at hl 2 rfl) ?_
                  refine py_get (C := RX12) (T := TX12) (N := 54) (k := 8) (v := .ref (G.2 u 8)) G0 hw in_X12_clause_X12 rfl h_359 (by decide) (by decide +kernel) rfl dX12_clause_237 ?_
                  refine lv_aload_n G0.1 G0.2.1 dX12_clause_240 rfl (lv_at hl 2 rfl) ?_
                  refine py_get (C := RX12) (T := TX12) (N := 54) (k := 14) (v := .int v_201) G0 hw in_X12_clause_X12 rfl h_359 (by decide) (by decide +kernel) rfl dX12_clause_241 ?_
                  obtain ⟨g_368, ha_369, hi_370⟩ := wf_arr (n := 5) (lo := 0) (hi := 340) hWF (wt12_8 hG Tu) (by decide) (fun _ => rfl)
                  have rg_371 : vp_in v_201 5 := ti_in (by omega) (by omega)
                  refine py_iald G0 hw ha_369 rg_371 dX12_clause_244 ?_
                  refine lv_topi (fun x_372 ex_372 => ?_)
                  have bx_372 := ti_at hi_370 rg_371 ex_372
                  have zx_372 := arz_ld ha_369 ex_372
                  have hcxx_372 := cdv_ld h_359 rfl ha_369 ex_372
                  have rg_373 : vp_in x_47 450 := ti_in (by omega) (by omega)
                  refine py_iast G0 hw h_246 rg_373 dX12_clause_245 (fun f_374 H_375 locs h_376 x_377 hw => ?_)
                  have hkw : KP G [46] false f_357 f_374 := KP.refl.upd hWF x_377 (wt12_11 hG Tu) (Or.inl (by decide))
                  have hX9 := hX9.same ((x_377 _ (hWF _ (by rw [wt12_9 hG Tu]; decide)).1 (wf_ne (wt12_9 hG Tu) (wt12_11 hG Tu) (by decide))).2)
                  have hX10 := hX10.same ((x_377 _ (hWF _ (by rw [wt12_10 hG Tu]; decide)).1 (wf_ne (wt12_10 hG Tu) (wt12_11 hG Tu) (by decide))).2)
                  have hX12 := hX12.same ((x_377 _ (hWF _ (by rw [wt12_12 hG Tu]; decide)).1 (wf_ne (wt12_12 hG Tu) (wt12_11 hG Tu) (by decide))).2)
                  have hV10 := (arz_kp ((x_377 _ (hWF _ (by rw [wt12_10 hG Tu]; decide)).1 (wf_ne (wt12_10 hG Tu) (wt12_11 hG Tu) (by decide))).2) _).trans hV10
                  have hFK := hFK.same ((x_377 _ (hWF _ (by rw [Tu]; decide)).1 (wf_ne Tu (wt12_11 hG Tu) (by decide))).2)
                  have cq_378 := cdv_kp (f := f_357) (f1 := f_374) (m := u) (x_377 _ (hWF _ (by rw [wt12_8 hG Tu]; decide)).1 (wf_ne (wt12_8 hG Tu) (wt12_11 hG Tu) (by decide))).2 (mi_kp (x_377 u (hWF u (by rw [Tu]; decide)).1 (wf_ne Tu (wt12_11 hG Tu) (by decide))).2 14)
                  have kq_379 := clv_kp (f := f_357) (f1 := f_374) (m := u) (x_377 _ (hWF _ (by rw [wt12_9 hG Tu]; decide)).1 (wf_ne (wt12_9 hG Tu) (wt12_11 hG Tu) (by decide))).2 (mi_kp (x_377 u (hWF u (by rw [Tu]; decide)).1 (wf_ne Tu (wt12_11 hG Tu) (by decide))).2 14)
                  have hTR := hTR.same (f2 := f_374) (x_377 _ (hWF _ (by rw [wt12_6 hG Tu]; decide)).1 (wf_ne (wt12_6 hG Tu) (wt12_11 hG Tu) (by decide))).2 (x_377 _ (hWF _ (by rw [wt12_7 hG Tu]; decide)).1 (wf_ne (wt12_7 hG Tu) (wt12_11 hG Tu) (by decide))).2 (x_377 _ (hWF _ (by rw [wt12_8 hG Tu]; decide)).1 (wf_ne (wt12_8 hG Tu) (wt12_11 hG Tu) (by decide))).2 (mi_kp (x_377 u (hWF u (by rw [Tu]; decide)).1 (wf_ne Tu (wt12_11 hG Tu) (by decide))).2 14) (fun q => by have hz := mi_kp (x_377 u (hWF u (by rw [Tu]; decide)).1 (wf_ne Tu (wt12_11 hG Tu) (by decide))).2 4; omega)
                  have hKP := hKP.upd hWF x_377 (wt12_11 hG Tu) (Or.inl (by decide))
                  have hi_380 := wf_inu (k := (x_47 : Int32).toNatClampNeg) (x := x_372) hi_250 (wf_free x_372).1 (wf_free x_372).2
                  have hWF := wf_upd hWF h_376 x_377 (by rw [(wt12_11 hG Tu)]; exact ⟨_, rfl, hi_380⟩)
                  have h_359 := h_359.ext x_377 (py_ne_arr h_359 h_246)
                  have tq_381 := mi_row h_359 2 rfl
                  have tq_382 := mi_row h_359 3 rfl
                  have bx_356 := wf_free x_356
                  have tq_383 := mi_row h_359 4 rfl
                  have bv_198 := wf_free v_198
                  have tq_384 := mi_row h_359 5 rfl
                  have bv_199 := wf_free v_199
                  have tq_385 := mi_row h_359 14 rfl
                  have ha_236 := ha_236.ext x_377 (wf_ne (wt12_10 hG Tu) (wt12_11 hG Tu) (by decide))
                  have ha_369 := ha_369.ext x_377 (wf_ne (wt12_8 hG Tu) (wt12_11 hG Tu) (by decide))
                  have hX11 := hX11.up h_246 h_376 (by omega) (by omega)
                  have hV11 : arz f_374 (G.2 u 11) (90 * mi f u 14 + clv f G u) = cdv f_374 G u := by rw [show (90 * mi f u 14 + clv f G u) = x_47.toInt by omega, (arz_up h_246 h_376 (by omega)).1]; omega
                  have hTR1 := hTR
                  have hTRw : mi f_374 u 4 = -1 := by have hz := mi_kp (x_377 u (hWF u (by rw [Tu]; decide)).1 (wf_ne Tu (wt12_11 hG Tu) (by decide))).2 4; omega
                  have hcd2 := cdv_rng hG hWF Tu (by have hz := mi_kp (x_377 u (hWF u (by rw [Tu]; decide)).1 (wf_ne Tu (wt12_11 hG Tu) (by decide))).2 14; omega) (by have hz := mi_kp (x_377 u (hWF u (by rw [Tu]; decide)).1 (wf_ne Tu (wt12_11 hG Tu) (by decide))).2 14; omega)
                  have hTR : TR f_374 f_374 G u (80) 0 0 := TR.refl (by have hz := mi_kp (x_377 u (hWF u (by rw [Tu]; decide)).1 (wf_ne Tu (wt12_11 hG Tu) (by decide))).2 14; omega) (by omega)
                  refine lv_aload_n G0.1 G0.2.1 dX12_clause_246 rfl (lv_at hl 2 rfl) ?_
                  refine py_callv hw (va_runV (As := []) (rest := []) G0 (rq_sum l E G hG L_336 f_374 H_375.size u hWF Tu (show mi f_374 u 4 = -1 ∧ 0 ≤ mi f_374 u 5 ∧ mi f_374 u 5 ≤ 6 ∧ 0 ≤ mi f_374 u 3 ∧ mi f_374 u 3 ≤ mi f_374 u 2 ∧ cdv f_374 G u ≤ mi f_374 u 3 by omega)) (cwV 0 G0.2.2.2.2 g_X12_clause_X12_sum_167 rfl rfl rfl (by decide +kernel) ⟨(Nat.le_of_ble_eq_true rfl), (Nat.le_of_ble_eq_true rfl)⟩) (py_preV hw (C := RX12) (T := TX12) (N := 54) rfl h_359) rfl rfl hl.1 rfl (lv_room (Nat.le_of_ble_eq_true rfl)) dX12_clause_247 ⟨(Nat.le_of_ble_eq_true rfl), (Nat.le_of_ble_eq_true rfl)⟩) (fun L_386 f_387 H_388 locs hp_389 hw => ?_)
                  obtain ⟨en_391, en_392, en_393, hWF, kp_394, fk_395⟩ := hp_389
                  have hX9 := hX9.same (kp_f kp_394 (wt12_9 hG Tu) (by decide) (by decide) (fun _ => by decide))
                  have hX10 := hX10.same (kp_f kp_394 (wt12_10 hG Tu) (by decide) (by decide) (fun _ => by decide))
                  have hX11 := hX11.same (kp_f kp_394 (wt12_11 hG Tu) (by decide) (by decide) (fun _ => by decide))
                  have hX12 := hX12.same (kp_f kp_394 (wt12_12 hG Tu) (by decide) (by decide) (fun _ => by decide))
                  have hV10 := (arz_kp (kp_f kp_394 (wt12_10 hG Tu) (by decide) (by decide) (fun _ => by decide)) _).trans hV10
                  have hV11 := (arz_kp (kp_f kp_394 (wt12_11 hG Tu) (by decide) (by decide) (fun _ => by decide)) _).trans hV11
                  have kq_396 := clv_k hG Tu kp_394 fk_395 (by decide)
                  have hFK := hFK.trans fk_395 (by decide)
                  have hKP := hKP.trans kp_394 (by decide) (by decide)
                  obtain ⟨v_397, v_398, v_399, hr_400⟩ := fk_3_4_5 hWF Tu fk_395 h_359
                  have tq_401 := mi_row hr_400 2 rfl
                  have tq_402 := mi_row hr_400 3 rfl
                  have bv_397 := wf_free v_397
                  have tq_403 := mi_row hr_400 4 rfl
                  have bv_398 := wf_free v_398
                  have tq_404 := mi_row hr_400 5 rfl
                  have bv_399 := wf_free v_399
                  have tq_405 := mi_row hr_400 14 rfl
                  have h_376 := kp_at kp_394 hWF (wt12_11 hG Tu) (by decide) (by decide) (by decide) h_376
                  have ha_236 := kp_at kp_394 hWF (wt12_10 hG Tu) (by decide) (by decide) (by decide) ha_236
                  have hTR : TR f_374 f_387 G u (80) 0 1 := hTR.trans (en_393.lift (b := 0) (by omega) (by omega) (by omega) (by omega)) (fun q => by omega)
                  refine lv_aload_n G0.1 G0.2.1 dX12_clause_250 rfl (lv_at hl 2 rfl) ?_
                  refine py_get (C := RX12) (T := TX12) (N := 54) (k := 12) (v := .ref (G.2 u 12)) G0 hw in_X12_clause_X12 rfl hr_400 (by decide) (by decide +kernel) rfl dX12_clause_251 ?_
                  refine lv_iload_n G0.1 G0.2.1 dX12_clause_254 rfl (lv_at hl 1 rfl) ?_
                  refine lv_aload_n G0.1 G0.2.1 dX12_clause_255 rfl (lv_at hl 2 rfl) ?_
                  refine py_get (C := RX12) (T := TX12) (N := 54) (k := 8) (v := .ref (G.2 u 8)) G0 hw in_X12_clause_X12 rfl hr_400 (by decide) (by decide +kernel) rfl dX12_clause_256 ?_
                  refine lv_aload_n G0.1 G0.2.1 dX12_clause_259 rfl (lv_at hl 2 rfl) ?_
                  refine py_get (C := RX12) (T := TX12) (N := 54) (k := 14) (v := .int v_201) G0 hw in_X12_clause_X12 rfl hr_400 (by decide) (by decide +kernel) rfl dX12_clause_260 ?_
                  obtain ⟨g_406, ha_407, hi_408⟩ := wf_arr (n := 5) (lo := 0) (hi := 340) hWF (wt12_8 hG Tu) (by decide) (fun _ => rfl)
                  have rg_409 : vp_in v_201 5 := ti_in (by omega) (by omega)
                  refine py_iald G0 hw ha_407 rg_409 dX12_clause_263 ?_
                  refine lv_topi (fun x_410 ex_410 => ?_)
                  have bx_410 := ti_at hi_408 rg_409 ex_410
                  have zx_410 := arz_ld ha_407 ex_410
                  have hcxx_410 := cdv_ld hr_400 rfl ha_407 ex_410
                  obtain ⟨g_411, ha_412, hi_413⟩ := wf_arr (n := 450) (lo := (-2147483648)) (hi := 2147483647) hWF (wt12_12 hG Tu) (by decide) (fun _ => rfl)
                  have rg_414 : vp_in x_47 450 := ti_in (by omega) (by omega)
                  refine py_iast G0 hw ha_412 rg_414 dX12_clause_264 (fun f_415 H_416 locs h_417 x_418 hw => ?_)
                  have hkw : KP G [47] false f_387 f_415 := KP.refl.upd hWF x_418 (wt12_12 hG Tu) (Or.inl (by decide))
                  have hX9 := hX9.same ((x_418 _ (hWF _ (by rw [wt12_9 hG Tu]; decide)).1 (wf_ne (wt12_9 hG Tu) (wt12_12 hG Tu) (by decide))).2)
                  have hX10 := hX10.same ((x_418 _ (hWF _ (by rw [wt12_10 hG Tu]; decide)).1 (wf_ne (wt12_10 hG Tu) (wt12_12 hG Tu) (by decide))).2)
                  have hX11 := hX11.same ((x_418 _ (hWF _ (by rw [wt12_11 hG Tu]; decide)).1 (wf_ne (wt12_11 hG Tu) (wt12_12 hG Tu) (by decide))).2)
                  have hV10 := (arz_kp ((x_418 _ (hWF _ (by rw [wt12_10 hG Tu]; decide)).1 (wf_ne (wt12_10 hG Tu) (wt12_12 hG Tu) (by decide))).2) _).trans hV10
                  have hV11 := (arz_kp ((x_418 _ (hWF _ (by rw [wt12_11 hG Tu]; decide)).1 (wf_ne (wt12_11 hG Tu) (wt12_12 hG Tu) (by decide))).2) _).trans hV11
                  have hFK := hFK.same ((x_418 _ (hWF _ (by rw [Tu]; decide)).1 (wf_ne Tu (wt12_12 hG Tu) (by decide))).2)
                  have cq_419 := cdv_kp (f := f_387) (f1 := f_415) (m := u) (x_418 _ (hWF _ (by rw [wt12_8 hG Tu]; decide)).1 (wf_ne (wt12_8 hG Tu) (wt12_12 hG Tu) (by decide))).2 (mi_kp (x_418 u (hWF u (by rw [Tu]; decide)).1 (wf_ne Tu (wt12_12 hG Tu) (by decide))).2 14)
                  have kq_420 := clv_kp (f := f_387) (f1 := f_415) (m := u) (x_418 _ (hWF _ (by rw [wt12_9 hG Tu]; decide)).1 (wf_ne (wt12_9 hG Tu) (wt12_12 hG Tu) (by decide))).2 (mi_kp (x_418 u (hWF u (by rw [Tu]; decide)).1 (wf_ne Tu (wt12_12 hG Tu) (by decide))).2 14)
                  have hTR := hTR.same (f2 := f_415) (x_418 _ (hWF _ (by rw [wt12_6 hG Tu]; decide)).1 (wf_ne (wt12_6 hG Tu) (wt12_12 hG Tu) (by decide))).2 (x_418 _ (hWF _ (by rw [wt12_7 hG Tu]; decide)).1 (wf_ne (wt12_7 hG Tu) (wt12_12 hG Tu) (by decide))).2 (x_418 _ (hWF _ (by rw [wt12_8 hG Tu]; decide)).1 (wf_ne (wt12_8 hG Tu) (wt12_12 hG Tu) (by decide))).2 (mi_kp (x_418 u (hWF u (by rw [Tu]; decide)).1 (wf_ne Tu (wt12_12 hG Tu) (by decide))).2 14) (fun q => by have hz := mi_kp (x_418 u (hWF u (by rw [Tu]; decide)).1 (wf_ne Tu (wt12_12 hG Tu) (by decide))).2 4; omega)
                  have hKP := hKP.upd hWF x_418 (wt12_12 hG Tu) (Or.inl (by decide))
                  have hi_421 := wf_inu (k := (x_47 : Int32).toNatClampNeg) (x := x_410) hi_413 (wf_free x_410).1 (wf_free x_410).2
                  have hWF := wf_upd hWF h_417 x_418 (by rw [(wt12_12 hG Tu)]; exact ⟨_, rfl, hi_421⟩)
                  have hr_400 := hr_400.ext x_418 (py_ne_arr hr_400 ha_412)
                  have tq_422 := mi_row hr_400 2 rfl
                  have tq_423 := mi_row hr_400 3 rfl
                  have bv_397 := wf_free v_397
                  have tq_424 := mi_row hr_400 4 rfl
                  have bv_398 := wf_free v_398
                  have tq_425 := mi_row hr_400 5 rfl
                  have bv_399 := wf_free v_399
                  have tq_426 := mi_row hr_400 14 rfl
                  have h_376 := h_376.ext x_418 (wf_ne (wt12_11 hG Tu) (wt12_12 hG Tu) (by decide))
                  have ha_236 := ha_236.ext x_418 (wf_ne (wt12_10 hG Tu) (wt12_12 hG Tu) (by decide))
                  have ha_407 := ha_407.ext x_418 (wf_ne (wt12_8 hG Tu) (wt12_12 hG Tu) (by decide))
                  have hX12 := hX12.up ha_412 h_417 (by omega) (by omega)
                  have hV12 : arz f_415 (G.2 u 12) (90 * mi f u 14 + clv f G u) = cdv f_415 G u := by rw [show (90 * mi f u 14 + clv f G u) = x_47.toInt by omega, (arz_up ha_412 h_417 (by omega)).1]; omega
                  refine lv_aload_n G0.1 G0.2.1 dX12_clause_265 rfl (lv_at hl 2 rfl) ?_
                  refine py_get (C := RX12) (T := TX12) (N := 54) (k := 9) (v := .ref (G.2 u 9)) G0 hw in_X12_clause_X12 rfl hr_400 (by decide) (by decide +kernel) rfl dX12_clause_266 ?_
                  refine lv_aload_n G0.1 G0.2.1 dX12_clause_269 rfl (lv_at hl 2 rfl) ?_
                  refine py_get (C := RX12) (T := TX12) (N := 54) (k := 14) (v := .int v_201) G0 hw in_X12_clause_X12 rfl hr_400 (by decide) (by decide +kernel) rfl dX12_clause_270 ?_
                  refine lv_dup2_11 G0.1 G0.2.1 dX12_clause_273 rfl rfl ?_
                  obtain ⟨g_427, ha_428, hi_429⟩ := wf_arr (n := 5) (lo := 0) (hi := 90) hWF (wt12_9 hG Tu) (by decide) (fun _ => rfl)
                  have rg_430 : vp_in v_201 5 := ti_in (by omega) (by omega)
                  refine py_iald G0 hw ha_428 rg_430 dX12_clause_274 ?_
                  refine lv_topi (fun x_431 ex_431 => ?_)
                  have bx_431 := ti_at hi_429 rg_430 ex_431
                  have zx_431 := arz_ld ha_428 ex_431
                  have hkxx_431 := clv_ld hr_400 rfl ha_428 ex_431
                  refine lv_iconst (v := 1) G0.1 G0.2.1 dX12_clause_275 (by decide) ?_
                  refine lv_iadd G0.1 G0.2.1 dX12_clause_276 ?_
                  refine lv_topi (fun x_432 ex_432 => ?_)
                  first | have tx_432 := ti_add ex_432 (by omega -splitDisjunctions) (by omega -splitDisjunctions) | skip
                  have rg_433 : vp_in v_201 5 := ti_in (by omega) (by omega)
                  refine py_iast G0 hw ha_428 rg_433 dX12_clause_277 (fun f_434 H_435 locs h_436 x_437 hw => ?_)
                  have hkw : KP G [44] false f_415 f_434 := KP.refl.upd hWF x_437 (wt12_9 hG Tu) (Or.inl (by decide))
                  have hX10 := hX10.same ((x_437 _ (hWF _ (by rw [wt12_10 hG Tu]; decide)).1 (wf_ne (wt12_10 hG Tu) (wt12_9 hG Tu) (by decide))).2)
                  have hX11 := hX11.same ((x_437 _ (hWF _ (by rw [wt12_11 hG Tu]; decide)).1 (wf_ne (wt12_11 hG Tu) (wt12_9 hG Tu) (by decide))).2)
                  have hX12 := hX12.same ((x_437 _ (hWF _ (by rw [wt12_12 hG Tu]; decide)).1 (wf_ne (wt12_12 hG Tu) (wt12_9 hG Tu) (by decide))).2)
                  have hV10 := (arz_kp ((x_437 _ (hWF _ (by rw [wt12_10 hG Tu]; decide)).1 (wf_ne (wt12_10 hG Tu) (wt12_9 hG Tu) (by decide))).2) _).trans hV10
                  have hV11 := (arz_kp ((x_437 _ (hWF _ (by rw [wt12_11 hG Tu]; decide)).1 (wf_ne (wt12_11 hG Tu) (wt12_9 hG Tu) (by decide))).2) _).trans hV11
                  have hV12 := (arz_kp ((x_437 _ (hWF _ (by rw [wt12_12 hG Tu]; decide)).1 (wf_ne (wt12_12 hG Tu) (wt12_9 hG Tu) (by decide))).2) _).trans hV12
                  have hFK := hFK.same ((x_437 _ (hWF _ (by rw [Tu]; decide)).1 (wf_ne Tu (wt12_9 hG Tu) (by decide))).2)
                  have cq_438 := cdv_kp (f := f_415) (f1 := f_434) (m := u) (x_437 _ (hWF _ (by rw [wt12_8 hG Tu]; decide)).1 (wf_ne (wt12_8 hG Tu) (wt12_9 hG Tu) (by decide))).2 (mi_kp (x_437 u (hWF u (by rw [Tu]; decide)).1 (wf_ne Tu (wt12_9 hG Tu) (by decide))).2 14)
                  have hTR := hTR.same (f2 := f_434) (x_437 _ (hWF _ (by rw [wt12_6 hG Tu]; decide)).1 (wf_ne (wt12_6 hG Tu) (wt12_9 hG Tu) (by decide))).2 (x_437 _ (hWF _ (by rw [wt12_7 hG Tu]; decide)).1 (wf_ne (wt12_7 hG Tu) (wt12_9 hG Tu) (by decide))).2 (x_437 _ (hWF _ (by rw [wt12_8 hG Tu]; decide)).1 (wf_ne (wt12_8 hG Tu) (wt12_9 hG Tu) (by decide))).2 (mi_kp (x_437 u (hWF u (by rw [Tu]; decide)).1 (wf_ne Tu (wt12_9 hG Tu) (by decide))).2 14) (fun q => by have hz := mi_kp (x_437 u (hWF u (by rw [Tu]; decide)).1 (wf_ne Tu (wt12_9 hG Tu) (by decide))).2 4; omega)
                  have hKP := hKP.upd hWF x_437 (wt12_9 hG Tu) (Or.inl (by decide))
                  have hi_439 := wf_inu (k := (v_201 : Int32).toNatClampNeg) (x := x_432) hi_429 (by omega) (by omega)
                  have hWF := wf_upd hWF h_436 x_437 (by rw [(wt12_9 hG Tu)]; exact ⟨_, rfl, hi_439⟩)
                  have hr_400 := hr_400.ext x_437 (py_ne_arr hr_400 ha_428)
                  have tq_440 := mi_row hr_400 2 rfl
                  have tq_441 := mi_row hr_400 3 rfl
                  have bv_397 := wf_free v_397
                  have tq_442 := mi_row hr_400 4 rfl
                  have bv_398 := wf_free v_398
                  have tq_443 := mi_row hr_400 5 rfl
                  have bv_399 := wf_free v_399
                  have tq_444 := mi_row hr_400 14 rfl
                  have h_417 := h_417.ext x_437 (wf_ne (wt12_12 hG Tu) (wt12_9 hG Tu) (by decide))
                  have h_376 := h_376.ext x_437 (wf_ne (wt12_11 hG Tu) (wt12_9 hG Tu) (by decide))
                  have ha_236 := ha_236.ext x_437 (wf_ne (wt12_10 hG Tu) (wt12_9 hG Tu) (by decide))
                  have ha_407 := ha_407.ext x_437 (wf_ne (wt12_8 hG Tu) (wt12_9 hG Tu) (by decide))
                  have hX9 := hX9.up ha_428 h_436 (by omega) (by omega)
                  have hkn : clv f_434 G u = x_432.toInt := by unfold clv; rw [mi_kp (x_437 u (hWF u (by rw [Tu]; decide)).1 (wf_ne Tu (wt12_9 hG Tu) (by decide))).2 14, mi_row hr_400 14 rfl]; exact (arz_up ha_428 h_436 (by omega)).1
                  exact py_vret G0 hr hlk hw ⟨(by first | omega | (intro q; omega)), (by first | omega | (intro q; omega)), (by first | omega | (intro q; omega)), ⟨(hTR1.tp.trans hTR.tp), hX10, hX11, hX12, hX9, by omega⟩, (fun hw => by first | exact absurd hw (by omega) | exact ⟨co_b hTR1 hTR hTRw hw (by omega) (by omega) (by omega) (by omega), by omega⟩), hWF, hKP, hFK⟩ dX12_clause_278
                · skip
                  have tc_355 := ti_ne c_355
                  refine lv_aload_n G0.1 G0.2.1 dX12_clause_216 rfl (lv_at hl 2 rfl) ?_
                  refine py_callv hw (va_runV (As := []) (rest := []) G0 (c_X12_bad l E G L_336 f_337 H_338.size u hG hWF Tu (show 0 ≤ mi f_337 u 3 by omega)) (cwV 0 G0.2.2.2.2 g_X12_clause_X12_bad_143 rfl rfl rfl (by decide +kernel) ⟨(Nat.le_of_ble_eq_true rfl), (Nat.le_of_ble_eq_true rfl)⟩) (py_preV hw (C := RX12) (T := TX12) (N := 54) rfl hr_349) rfl rfl hl.1 rfl (lv_room (Nat.le_of_ble_eq_true rfl)) dX12_clause_217 ⟨(Nat.le_of_ble_eq_true rfl), (Nat.le_of_ble_eq_true rfl)⟩) (fun L_445 f_446 H_447 locs hp_448 hw => ?_)
                  obtain ⟨en_450, en_451, hWF, kp_452, fk_453⟩ := hp_448
                  have hX9 := hX9.same (kp_f kp_452 (wt12_9 hG Tu) (by decide) (by decide) (fun _ => by decide))
                  have hX10 := hX10.same (kp_f kp_452 (wt12_10 hG Tu) (by decide) (by decide) (fun _ => by decide))
                  have hX11 := hX11.same (kp_f kp_452 (wt12_11 hG Tu) (by decide) (by decide) (fun _ => by decide))
                  have hX12 := hX12.same (kp_f kp_452 (wt12_12 hG Tu) (by decide) (by decide) (fun _ => by decide))
                  have hV10 := (arz_kp (kp_f kp_452 (wt12_10 hG Tu) (by decide) (by decide) (fun _ => by decide)) _).trans hV10
                  have hV11 := (arz_kp (kp_f kp_452 (wt12_11 hG Tu) (by decide) (by decide) (fun _ => by decide)) _).trans hV11
                  have cq_454 := cdv_k hG Tu kp_452 fk_453 (by decide)
                  have kq_455 := clv_k hG Tu kp_452 fk_453 (by decide)
                  have hFK := hFK.trans fk_453 (by decide)
                  have hKP := hKP.trans kp_452 (by decide) (by decide)
                  obtain ⟨v_456, hr_457⟩ := fk_4 hWF Tu fk_453 hr_349
                  have tq_458 := mi_row hr_457 2 rfl
                  have tq_459 := mi_row hr_457 3 rfl
                  have bv_348 := wf_free v_348
                  have tq_460 := mi_row hr_457 4 rfl
                  have bv_456 := wf_free v_456
                  have tq_461 := mi_row hr_457 5 rfl
                  have bv_199 := wf_free v_199
                  have tq_462 := mi_row hr_457 14 rfl
                  have h_246 := kp_at kp_452 hWF (wt12_11 hG Tu) (by decide) (by decide) (by decide) h_246
                  have ha_236 := kp_at kp_452 hWF (wt12_10 hG Tu) (by decide) (by decide) (by decide) ha_236
                  have hTR := hTR.kp hG Tu kp_452 fk_453 (by decide) (fun q => by omega)
                  exact py_vret G0 hr hlk hw ⟨(by first | omega | (intro q; omega)), (by first | omega | (intro q; omega)), (by first | omega | (intro q; omega)), ⟨hTR.tp, hX10, hX11, hX12, hX9, by omega⟩, (fun hw => by first | exact absurd hw (by omega) | exact ⟨co_a hTR hw (by omega) (by omega) (by omega) (by omega), by omega⟩), hWF, hKP, hFK⟩ dX12_clause_220
          refine lv_if_eq (tgt := 139) G0.1 G0.2.1 dX12_clause_129 (by decide) (fun c_463 => ?_) (fun c_463 => ?_)
          · skip
            have tc_463 := ti_eq c_463
            refine lv_aload_n G0.1 G0.2.1 dX12_clause_139 rfl (lv_at hl 2 rfl) ?_
            obtain ⟨v_464, v_465, v_466, v_467, v_468, v_469, v_470, v_471, v_472, v_473, v_474, v_475, y_476, v_477, v_478, v_479, v_480, v_481, y_482, v_483, y_484, v_485, hr_498, b_486, b_487, b_488, b_489, b_490, b_491, b_492, b_493, b_494, b_495, b_496, b_497⟩ := wg_12 hWF Tu
            have tq_499 := mi_row hr_498 2 rfl
            have tq_500 := mi_row hr_498 3 rfl
            have bv_466 := wf_free v_466
            have tq_501 := mi_row hr_498 4 rfl
            have bv_467 := wf_free v_467
            have tq_502 := mi_row hr_498 5 rfl
            have bv_468 := wf_free v_468
            have tq_503 := mi_row hr_498 14 rfl
            refine py_callv hw (va_runV (As := []) (rest := []) G0 (rq_sum l E G hG L_j127 f_j127 H_j127.size u hWF Tu (show mi f_j127 u 4 = -1 ∧ 0 ≤ mi f_j127 u 5 ∧ mi f_j127 u 5 ≤ 6 ∧ 0 ≤ mi f_j127 u 3 ∧ mi f_j127 u 3 ≤ mi f_j127 u 2 ∧ cdv f_j127 G u ≤ mi f_j127 u 3 by omega)) (cwV 0 G0.2.2.2.2 g_X12_clause_X12_sum_167 rfl rfl rfl (by decide +kernel) ⟨(Nat.le_of_ble_eq_true rfl), (Nat.le_of_ble_eq_true rfl)⟩) (py_preV hw (C := RX12) (T := TX12) (N := 54) rfl hr_498) rfl rfl hl.1 rfl (lv_room (Nat.le_of_ble_eq_true rfl)) dX12_clause_140 ⟨(Nat.le_of_ble_eq_true rfl), (Nat.le_of_ble_eq_true rfl)⟩) (fun L_504 f_505 H_506 locs hp_507 hw => ?_)
            obtain ⟨en_509, en_510, en_511, hWF, kp_512, fk_513⟩ := hp_507
            have hX9 := hX9.same (kp_f kp_512 (wt12_9 hG Tu) (by decide) (by decide) (fun _ => by decide))
            have hX10 := hX10.same (kp_f kp_512 (wt12_10 hG Tu) (by decide) (by decide) (fun _ => by decide))
            have hX11 := hX11.same (kp_f kp_512 (wt12_11 hG Tu) (by decide) (by decide) (fun _ => by decide))
            have hX12 := hX12.same (kp_f kp_512 (wt12_12 hG Tu) (by decide) (by decide) (fun _ => by decide))
            have hV10 := (arz_kp (kp_f kp_512 (wt12_10 hG Tu) (by decide) (by decide) (fun _ => by decide)) _).trans hV10
            have kq_514 := clv_k hG Tu kp_512 fk_513 (by decide)
            have hFK := hFK.trans fk_513 (by decide)
            have hKP := hKP.trans kp_512 (by decide) (by decide)
            obtain ⟨v_515, v_516, v_517, hr_518⟩ := fk_3_4_5 hWF Tu fk_513 hr_498
            have tq_519 := mi_row hr_518 2 rfl
            have tq_520 := mi_row hr_518 3 rfl
            have bv_515 := wf_free v_515
            have tq_521 := mi_row hr_518 4 rfl
            have bv_516 := wf_free v_516
            have tq_522 := mi_row hr_518 5 rfl
            have bv_517 := wf_free v_517
            have tq_523 := mi_row hr_518 14 rfl
            have hTR : TR f f_505 G u (80) 0 1 := hTR.trans (en_511.lift (b := 0) (by omega) (by omega) (by omega) (by omega)) (fun q => by omega)
            refine lv_aload_n G0.1 G0.2.1 dX12_clause_143 rfl (lv_at hl 2 rfl) ?_
            refine py_get (C := RX12) (T := TX12) (N := 54) (k := 4) (v := .int v_516) G0 hw in_X12_clause_X12 rfl hr_518 (by decide) (by decide +kernel) rfl dX12_clause_144 ?_
            refine lv_iconst (v := (-1)) G0.1 G0.2.1 dX12_clause_147 (by decide) ?_
            refine lv_icmp_ne (tgt := 165) G0.1 G0.2.1 dX12_clause_148 (by decide) (fun c_524 => ?_) (fun c_524 => ?_)
            · skip
              have tc_524 := ti_ne c_524
              clear en_510
              refine lv_iconst (v := 0) G0.1 G0.2.1 dX12_clause_165 (by decide) ?_
              refine lv_istore_n (lv' := [(2, .int 0), (1, .int x_47), (0, .ref u)]) G0.1 G0.2.1 dX12_clause_166 rfl hl (by decide) rfl (fun ls hl => ?_)
              refine lv_iload_n G0.1 G0.2.1 dX12_clause_167 rfl (lv_at hl 0 rfl) ?_
              refine lv_if_eq (tgt := 183) G0.1 G0.2.1 dX12_clause_168 (by decide) (fun c_525 => ?_) (fun c_525 => ?_)
              · skip
                have tc_525 := ti_eq c_525
                exact jn_183 0 L_504 f_505 _ _ ls hWF hKP hX9 hX10 hX11 hX12 hFK hTR hV10 (by first | omega | (intros; omega)) (by first | omega | (intros; omega)) (by first | omega | (intros; omega)) hw (lv_sub hl [0, 1, 2] rfl)
              · skip
                exact absurd c_525 (by decide)
            · skip
              have tc_524 := ti_eq c_524
              replace en_510 := en_510 (by omega)
              refine lv_aload_n G0.1 G0.2.1 dX12_clause_151 rfl (lv_at hl 2 rfl) ?_
              refine py_calli hw (va_runV (As := []) (rest := []) G0 (c_X12_look l E G L_504 f_505 H_506.size u hG hWF Tu (show 0 ≤ mi f_505 u 3 ∧ mi f_505 u 3 ≤ mi f_505 u 2 by omega)) (cwV 0 G0.2.2.2.2 g_X12_clause_X12_look_146 rfl rfl rfl (by decide +kernel) ⟨(Nat.le_of_ble_eq_true rfl), (Nat.le_of_ble_eq_true rfl)⟩) (py_preV hw (C := RX12) (T := TX12) (N := 54) rfl hr_518) rfl rfl hl.1 rfl (lv_room (Nat.le_of_ble_eq_true rfl)) dX12_clause_152 ⟨(Nat.le_of_ble_eq_true rfl), (Nat.le_of_ble_eq_true rfl)⟩) (fun r_530 L_526 f_527 H_528 locs hp_529 hw => ?_)
              obtain ⟨en_531, en_532, en_533, hWF, kp_534, fk_535⟩ := hp_529
              have hX9 := hX9.same (kp_f kp_534 (wt12_9 hG Tu) (by decide) (by decide) (fun _ => by decide))
              have hX10 := hX10.same (kp_f kp_534 (wt12_10 hG Tu) (by decide) (by decide) (fun _ => by decide))
              have hX11 := hX11.same (kp_f kp_534 (wt12_11 hG Tu) (by decide) (by decide) (fun _ => by decide))
              have hX12 := hX12.same (kp_f kp_534 (wt12_12 hG Tu) (by decide) (by decide) (fun _ => by decide))
              have hV10 := (arz_kp (kp_f kp_534 (wt12_10 hG Tu) (by decide) (by decide) (fun _ => by decide)) _).trans hV10
              have cq_536 := cdv_k hG Tu kp_534 fk_535 (by decide)
              have kq_537 := clv_k hG Tu kp_534 fk_535 (by decide)
              have hFK := hFK.trans fk_535 (by decide)
              have hKP := hKP.trans kp_534 (by decide) (by decide)
              obtain ⟨v_538, hr_539⟩ := fk_3 hWF Tu fk_535 hr_518
              have tq_540 := mi_row hr_539 2 rfl
              have tq_541 := mi_row hr_539 3 rfl
              have bv_538 := wf_free v_538
              have tq_542 := mi_row hr_539 4 rfl
              have bv_516 := wf_free v_516
              have tq_543 := mi_row hr_539 5 rfl
              have bv_517 := wf_free v_517
              have tq_544 := mi_row hr_539 14 rfl
              have hTR := hTR.kp hG Tu kp_534 fk_535 (by decide) (fun q => by omega)
              have br_530 := wf_free r_530
              refine py_calli hw (va_runS (As := [.int r_530]) (rest := []) G0 (c_X12_isSign l E G L_526 f_527 H_528.size r_530 hG hWF) (va_cwS 1 G0.2.2.2.2 g_X12_clause_X12_isSign_180 rfl rfl rfl (by decide +kernel) ⟨(Nat.le_of_ble_eq_true rfl), (Nat.le_of_ble_eq_true rfl)⟩) (py_preS hw) rfl rfl hl.1 rfl (lv_room (Nat.le_of_ble_eq_true rfl)) dX12_clause_155 ⟨(Nat.le_of_ble_eq_true rfl), (Nat.le_of_ble_eq_true rfl)⟩) (fun r_549 L_545 f_546 H_547 locs hp_548 hw => ?_)
              obtain ⟨b_551, en_550, rfl, rfl⟩ := hp_548
              refine lv_if_eq (tgt := 165) G0.1 G0.2.1 dX12_clause_158 (by decide) (fun c_552 => ?_) (fun c_552 => ?_)
              · skip
                have tc_552 := ti_eq c_552
                clear en_550
                refine lv_iconst (v := 0) G0.1 G0.2.1 dX12_clause_165 (by decide) ?_
                refine lv_istore_n (lv' := [(2, .int 0), (1, .int x_47), (0, .ref u)]) G0.1 G0.2.1 dX12_clause_166 rfl hl (by decide) rfl (fun ls hl => ?_)
                refine lv_iload_n G0.1 G0.2.1 dX12_clause_167 rfl (lv_at hl 0 rfl) ?_
                refine lv_if_eq (tgt := 183) G0.1 G0.2.1 dX12_clause_168 (by decide) (fun c_553 => ?_) (fun c_553 => ?_)
                · skip
                  have tc_553 := ti_eq c_553
                  exact jn_183 0 L_526 f_527 _ _ ls hWF hKP hX9 hX10 hX11 hX12 hFK hTR hV10 (by first | omega | (intros; omega)) (by first | omega | (intros; omega)) (by first | omega | (intros; omega)) hw (lv_sub hl [0, 1, 2] rfl)
                · skip
                  exact absurd c_553 (by decide)
              · skip
                have tc_552 := ti_ne c_552
                replace en_550 := en_550 (by omega)
                refine lv_iconst (v := 1) G0.1 G0.2.1 dX12_clause_161 (by decide) ?_
                refine lv_goto (tgt := 166) G0.1 G0.2.1 dX12_clause_162 (by decide) ?_
                refine lv_istore_n (lv' := [(2, .int 1), (1, .int x_47), (0, .ref u)]) G0.1 G0.2.1 dX12_clause_166 rfl hl (by decide) rfl (fun ls hl => ?_)
                refine lv_iload_n G0.1 G0.2.1 dX12_clause_167 rfl (lv_at hl 0 rfl) ?_
                refine lv_if_eq (tgt := 183) G0.1 G0.2.1 dX12_clause_168 (by decide) (fun c_554 => ?_) (fun c_554 => ?_)
                · skip
                  exact absurd c_554 (by decide)
                · skip
                  have tc_554 := ti_ne c_554
                  refine lv_aload_n G0.1 G0.2.1 dX12_clause_171 rfl (lv_at hl 2 rfl) ?_
                  refine py_callv hw (va_runV (As := []) (rest := []) G0 (rq_compare l E G hG L_526 f_527 H_547.size u hWF Tu (show (mi f_527 u 4 = -1 → 0 ≤ mi f_527 u 5 ∧ mi f_527 u 5 ≤ 6 ∧ mi f_527 u 3 ≤ mi f_527 u 2) ∧ 0 ≤ mi f_527 u 3 ∧ cdv f_527 G u ≤ mi f_527 u 3 by omega)) (cwV 0 G0.2.2.2.2 g_X12_clause_X12_compare_189 rfl rfl rfl (by decide +kernel) ⟨(Nat.le_of_ble_eq_true rfl), (Nat.le_of_ble_eq_true rfl)⟩) (py_preV hw (C := RX12) (T := TX12) (N := 54) rfl hr_539) rfl rfl hl.1 rfl (lv_room (Nat.le_of_ble_eq_true rfl)) dX12_clause_172 ⟨(Nat.le_of_ble_eq_true rfl), (Nat.le_of_ble_eq_true rfl)⟩) (fun L_555 f_556 H_557 locs hp_558 hw => ?_)
                  obtain ⟨en_560, en_561, en_562, en_563, en_564, hWF, kp_565, fk_566⟩ := hp_558
                  have hX9 := hX9.same (kp_f kp_565 (wt12_9 hG Tu) (by decide) (by decide) (fun _ => by decide))
                  have hX10 := hX10.same (kp_f kp_565 (wt12_10 hG Tu) (by decide) (by decide) (fun _ => by decide))
                  have hX11 := hX11.same (kp_f kp_565 (wt12_11 hG Tu) (by decide) (by decide) (fun _ => by decide))
                  have hX12 := hX12.same (kp_f kp_565 (wt12_12 hG Tu) (by decide) (by decide) (fun _ => by decide))
                  have hV10 := (arz_kp (kp_f kp_565 (wt12_10 hG Tu) (by decide) (by decide) (fun _ => by decide)) _).trans hV10
                  have kq_567 := clv_k hG Tu kp_565 fk_566 (by decide)
                  have hFK := hFK.trans fk_566 (by decide)
                  have hKP := hKP.trans kp_565 (by decide) (by decide)
                  obtain ⟨v_568, v_569, v_570, hr_571⟩ := fk_3_4_5 hWF Tu fk_566 hr_539
                  have tq_572 := mi_row hr_571 2 rfl
                  have tq_573 := mi_row hr_571 3 rfl
                  have bv_568 := wf_free v_568
                  have tq_574 := mi_row hr_571 4 rfl
                  have bv_569 := wf_free v_569
                  have tq_575 := mi_row hr_571 5 rfl
                  have bv_570 := wf_free v_570
                  have tq_576 := mi_row hr_571 14 rfl
                  have hTR : TR f f_556 G u (80) 0 1 := hTR.trans (en_564.lift (b := 0) (by omega) (by omega) (by omega) (by omega)) (fun q => by omega)
                  refine lv_aload_n G0.1 G0.2.1 dX12_clause_175 rfl (lv_at hl 2 rfl) ?_
                  refine py_callv hw (va_runV (As := []) (rest := []) G0 (rq_goOnAnd l E G hG L_555 f_556 H_557.size u hWF Tu (show (mi f_556 u 4 = -1 → 0 ≤ mi f_556 u 5 ∧ mi f_556 u 5 ≤ 6 ∧ mi f_556 u 3 ≤ mi f_556 u 2) ∧ 0 ≤ mi f_556 u 3 ∧ cdv f_556 G u ≤ mi f_556 u 3 by omega)) (cwV 0 G0.2.2.2.2 g_X12_clause_X12_goOnAnd_192 rfl rfl rfl (by decide +kernel) ⟨(Nat.le_of_ble_eq_true rfl), (Nat.le_of_ble_eq_true rfl)⟩) (py_preV hw (C := RX12) (T := TX12) (N := 54) rfl hr_571) rfl rfl hl.1 rfl (lv_room (Nat.le_of_ble_eq_true rfl)) dX12_clause_176 ⟨(Nat.le_of_ble_eq_true rfl), (Nat.le_of_ble_eq_true rfl)⟩) (fun L_577 f_578 H_579 locs hp_580 hw => ?_)
                  obtain ⟨en_582, en_583, en_584, en_585, en_586, hWF, kp_587, fk_588⟩ := hp_580
                  have hX9 := hX9.same (kp_f kp_587 (wt12_9 hG Tu) (by decide) (by decide) (fun _ => by decide))
                  have hX10 := hX10.same (kp_f kp_587 (wt12_10 hG Tu) (by decide) (by decide) (fun _ => by decide))
                  have hX11 := hX11.same (kp_f kp_587 (wt12_11 hG Tu) (by decide) (by decide) (fun _ => by decide))
                  have hX12 := hX12.same (kp_f kp_587 (wt12_12 hG Tu) (by decide) (by decide) (fun _ => by decide))
                  have hV10 := (arz_kp (kp_f kp_587 (wt12_10 hG Tu) (by decide) (by decide) (fun _ => by decide)) _).trans hV10
                  have kq_589 := clv_k hG Tu kp_587 fk_588 (by decide)
                  have hFK := hFK.trans fk_588 (by decide)
                  have hKP := hKP.trans kp_587 (by decide) (by decide)
                  obtain ⟨v_590, v_591, v_592, hr_593⟩ := fk_3_4_5 hWF Tu fk_588 hr_571
                  have tq_594 := mi_row hr_593 2 rfl
                  have tq_595 := mi_row hr_593 3 rfl
                  have bv_590 := wf_free v_590
                  have tq_596 := mi_row hr_593 4 rfl
                  have bv_591 := wf_free v_591
                  have tq_597 := mi_row hr_593 5 rfl
                  have bv_592 := wf_free v_592
                  have tq_598 := mi_row hr_593 14 rfl
                  have hTR : TR f f_578 G u (80) 0 1 := hTR.trans (en_586.lift (b := 0) (by omega) (by omega) (by omega) (by omega)) (fun q => by omega)
                  refine lv_aload_n G0.1 G0.2.1 dX12_clause_179 rfl (lv_at hl 2 rfl) ?_
                  refine py_callv hw (va_runV (As := []) (rest := []) G0 (rq_goOnOr l E G hG L_577 f_578 H_579.size u hWF Tu (show (mi f_578 u 4 = -1 → 0 ≤ mi f_578 u 5 ∧ mi f_578 u 5 ≤ 6 ∧ mi f_578 u 3 ≤ mi f_578 u 2) ∧ 0 ≤ mi f_578 u 3 ∧ cdv f_578 G u ≤ mi f_578 u 3 by omega)) (cwV 0 G0.2.2.2.2 g_X12_clause_X12_goOnOr_195 rfl rfl rfl (by decide +kernel) ⟨(Nat.le_of_ble_eq_true rfl), (Nat.le_of_ble_eq_true rfl)⟩) (py_preV hw (C := RX12) (T := TX12) (N := 54) rfl hr_593) rfl rfl hl.1 rfl (lv_room (Nat.le_of_ble_eq_true rfl)) dX12_clause_180 ⟨(Nat.le_of_ble_eq_true rfl), (Nat.le_of_ble_eq_true rfl)⟩) (fun L_599 f_600 H_601 locs hp_602 hw => ?_)
                  obtain ⟨en_604, en_605, en_606, en_607, en_608, hWF, kp_609, fk_610⟩ := hp_602
                  have hX9 := hX9.same (kp_f kp_609 (wt12_9 hG Tu) (by decide) (by decide) (fun _ => by decide))
                  have hX10 := hX10.same (kp_f kp_609 (wt12_10 hG Tu) (by decide) (by decide) (fun _ => by decide))
                  have hX11 := hX11.same (kp_f kp_609 (wt12_11 hG Tu) (by decide) (by decide) (fun _ => by decide))
                  have hX12 := hX12.same (kp_f kp_609 (wt12_12 hG Tu) (by decide) (by decide) (fun _ => by decide))
                  have hV10 := (arz_kp (kp_f kp_609 (wt12_10 hG Tu) (by decide) (by decide) (fun _ => by decide)) _).trans hV10
                  have kq_611 := clv_k hG Tu kp_609 fk_610 (by decide)
                  have hFK := hFK.trans fk_610 (by decide)
                  have hKP := hKP.trans kp_609 (by decide) (by decide)
                  obtain ⟨v_612, v_613, v_614, hr_615⟩ := fk_3_4_5 hWF Tu fk_610 hr_593
                  have tq_616 := mi_row hr_615 2 rfl
                  have tq_617 := mi_row hr_615 3 rfl
                  have bv_612 := wf_free v_612
                  have tq_618 := mi_row hr_615 4 rfl
                  have bv_613 := wf_free v_613
                  have tq_619 := mi_row hr_615 5 rfl
                  have bv_614 := wf_free v_614
                  have tq_620 := mi_row hr_615 14 rfl
                  have hTR : TR f f_600 G u (80) 0 1 := hTR.trans (en_608.lift (b := 0) (by omega) (by omega) (by omega) (by omega)) (fun q => by omega)
                  exact jn_183 1 L_599 f_600 _ _ ls hWF hKP hX9 hX10 hX11 hX12 hFK hTR hV10 (by first | omega | (intros; omega)) (by first | omega | (intros; omega)) (by first | omega | (intros; omega)) hw (lv_sub hl [0, 1, 2] rfl)
          · skip
            have tc_463 := ti_ne c_463
            refine lv_aload_n G0.1 G0.2.1 dX12_clause_132 rfl (lv_at hl 2 rfl) ?_
            obtain ⟨v_621, v_622, v_623, v_624, v_625, v_626, v_627, v_628, v_629, v_630, v_631, v_632, y_633, v_634, v_635, v_636, v_637, v_638, y_639, v_640, y_641, v_642, hr_655, b_643, b_644, b_645, b_646, b_647, b_648, b_649, b_650, b_651, b_652, b_653, b_654⟩ := wg_12 hWF Tu
            have tq_656 := mi_row hr_655 2 rfl
            have tq_657 := mi_row hr_655 3 rfl
            have bv_623 := wf_free v_623
            have tq_658 := mi_row hr_655 4 rfl
            have bv_624 := wf_free v_624
            have tq_659 := mi_row hr_655 5 rfl
            have bv_625 := wf_free v_625
            have tq_660 := mi_row hr_655 14 rfl
            refine py_callv hw (va_runV (As := []) (rest := []) G0 (rq_condition l E G hG L_j127 f_j127 H_j127.size u hWF Tu (show mi f_j127 u 4 = -1 ∧ 0 ≤ mi f_j127 u 5 ∧ mi f_j127 u 5 ≤ 6 ∧ 0 ≤ mi f_j127 u 3 ∧ mi f_j127 u 3 ≤ mi f_j127 u 2 ∧ cdv f_j127 G u ≤ mi f_j127 u 3 by omega)) (cwV 0 G0.2.2.2.2 g_X12_clause_X12_condition_186 rfl rfl rfl (by decide +kernel) ⟨(Nat.le_of_ble_eq_true rfl), (Nat.le_of_ble_eq_true rfl)⟩) (py_preV hw (C := RX12) (T := TX12) (N := 54) rfl hr_655) rfl rfl hl.1 rfl (lv_room (Nat.le_of_ble_eq_true rfl)) dX12_clause_133 ⟨(Nat.le_of_ble_eq_true rfl), (Nat.le_of_ble_eq_true rfl)⟩) (fun L_661 f_662 H_663 locs hp_664 hw => ?_)
            obtain ⟨en_666, en_667, en_668, hWF, kp_669, fk_670⟩ := hp_664
            have hX9 := hX9.same (kp_f kp_669 (wt12_9 hG Tu) (by decide) (by decide) (fun _ => by decide))
            have hX10 := hX10.same (kp_f kp_669 (wt12_10 hG Tu) (by decide) (by decide) (fun _ => by decide))
            have hX11 := hX11.same (kp_f kp_669 (wt12_11 hG Tu) (by decide) (by decide) (fun _ => by decide))
            have hX12 := hX12.same (kp_f kp_669 (wt12_12 hG Tu) (by decide) (by decide) (fun _ => by decide))
            have hV10 := (arz_kp (kp_f kp_669 (wt12_10 hG Tu) (by decide) (by decide) (fun _ => by decide)) _).trans hV10
            have kq_671 := clv_k hG Tu kp_669 fk_670 (by decide)
            have hFK := hFK.trans fk_670 (by decide)
            have hKP := hKP.trans kp_669 (by decide) (by decide)
            obtain ⟨v_672, v_673, v_674, hr_675⟩ := fk_3_4_5 hWF Tu fk_670 hr_655
            have tq_676 := mi_row hr_675 2 rfl
            have tq_677 := mi_row hr_675 3 rfl
            have bv_672 := wf_free v_672
            have tq_678 := mi_row hr_675 4 rfl
            have bv_673 := wf_free v_673
            have tq_679 := mi_row hr_675 5 rfl
            have bv_674 := wf_free v_674
            have tq_680 := mi_row hr_675 14 rfl
            have hTR : TR f f_662 G u (80) 0 1 := hTR.trans (en_668.lift (b := 0) (by omega) (by omega) (by omega) (by omega)) (fun q => by omega)
            refine lv_goto (tgt := 183) G0.1 G0.2.1 dX12_clause_136 (by decide) ?_
            exact jn_183 v_193 L_661 f_662 _ _ ls hWF hKP hX9 hX10 hX11 hX12 hFK hTR hV10 (by first | omega | (intros; omega)) (by first | omega | (intros; omega)) (by first | omega | (intros; omega)) hw (lv_sub hl [0, 1, 2] rfl)
        refine lv_icmp_eq (tgt := 122) G0.1 G0.2.1 dX12_clause_110 (by decide) (fun c_681 => ?_) (fun c_681 => ?_)
        · skip
          have tc_681 := ti_eq c_681
          replace en_180 := en_180 (by omega)
          refine lv_iconst (v := 1) G0.1 G0.2.1 dX12_clause_122 (by decide) ?_
          refine lv_goto (tgt := 127) G0.1 G0.2.1 dX12_clause_123 (by decide) ?_
          exact jn_127 1 L_174 f_175 _ _ ls ⟨by omega, by omega⟩ hWF hKP hX9 hX10 hX11 hX12 hFK hTR hV10 (by first | omega | (intros; omega)) (by first | omega | (intros; omega)) (by first | omega | (intros; omega)) hw (lv_sub hl [0, 1] rfl)
        · skip
          have tc_681 := ti_ne c_681
          refine lv_aload_n G0.1 G0.2.1 dX12_clause_113 rfl (lv_at hl 1 rfl) ?_
          refine py_calli hw (va_runV (As := []) (rest := []) G0 (c_X12_look l E G L_174 f_175 H_176.size u hG hWF Tu (show 0 ≤ mi f_175 u 3 ∧ mi f_175 u 3 ≤ mi f_175 u 2 by omega)) (cwV 0 G0.2.2.2.2 g_X12_clause_X12_look_146 rfl rfl rfl (by decide +kernel) ⟨(Nat.le_of_ble_eq_true rfl), (Nat.le_of_ble_eq_true rfl)⟩) (py_preV hw (C := RX12) (T := TX12) (N := 54) rfl hr_187) rfl rfl hl.1 rfl (lv_room (Nat.le_of_ble_eq_true rfl)) dX12_clause_114 ⟨(Nat.le_of_ble_eq_true rfl), (Nat.le_of_ble_eq_true rfl)⟩) (fun r_686 L_682 f_683 H_684 locs hp_685 hw => ?_)
          obtain ⟨en_687, en_688, en_689, hWF, kp_690, fk_691⟩ := hp_685
          have hX9 := hX9.same (kp_f kp_690 (wt12_9 hG Tu) (by decide) (by decide) (fun _ => by decide))
          have hX10 := hX10.same (kp_f kp_690 (wt12_10 hG Tu) (by decide) (by decide) (fun _ => by decide))
          have hX11 := hX11.same (kp_f kp_690 (wt12_11 hG Tu) (by decide) (by decide) (fun _ => by decide))
          have hX12 := hX12.same (kp_f kp_690 (wt12_12 hG Tu) (by decide) (by decide) (fun _ => by decide))
          have hV10 := (arz_kp (kp_f kp_690 (wt12_10 hG Tu) (by decide) (by decide) (fun _ => by decide)) _).trans hV10
          have cq_692 := cdv_k hG Tu kp_690 fk_691 (by decide)
          have kq_693 := clv_k hG Tu kp_690 fk_691 (by decide)
          have hFK := hFK.trans fk_691 (by decide)
          have hKP := hKP.trans kp_690 (by decide) (by decide)
          obtain ⟨v_694, hr_695⟩ := fk_3 hWF Tu fk_691 hr_187
          have tq_696 := mi_row hr_695 2 rfl
          have tq_697 := mi_row hr_695 3 rfl
          have bv_694 := wf_free v_694
          have tq_698 := mi_row hr_695 4 rfl
          have bv_103 := wf_free v_103
          have tq_699 := mi_row hr_695 5 rfl
          have bv_104 := wf_free v_104
          have tq_700 := mi_row hr_695 14 rfl
          have h_164 := kp_at kp_690 hWF (wt12_10 hG Tu) (by decide) (by decide) (by decide) h_164
          have ha_154 := kp_at kp_690 hWF (wt12_8 hG Tu) (by decide) (by decide) (by decide) ha_154
          have hTR := hTR.kp hG Tu kp_690 fk_691 (by decide) (fun q => by omega)
          have br_686 := wf_free r_686
          refine lv_bipush (v := 40) G0.1 G0.2.1 dX12_clause_117 (by decide) ?_
          refine lv_icmp_ne (tgt := 126) G0.1 G0.2.1 dX12_clause_119 (by decide) (fun c_701 => ?_) (fun c_701 => ?_)
          · skip
            have tc_701 := ti_ne c_701
            refine lv_iconst (v := 0) G0.1 G0.2.1 dX12_clause_126 (by decide) ?_
            exact jn_127 0 L_682 f_683 _ _ ls ⟨by omega, by omega⟩ hWF hKP hX9 hX10 hX11 hX12 hFK hTR hV10 (by first | omega | (intros; omega)) (by first | omega | (intros; omega)) (by first | omega | (intros; omega)) hw (lv_sub hl [0, 1] rfl)
          · skip
            have tc_701 := ti_eq c_701
            replace en_688 := en_688 (by omega)
            refine lv_iconst (v := 1) G0.1 G0.2.1 dX12_clause_122 (by decide) ?_
            refine lv_goto (tgt := 127) G0.1 G0.2.1 dX12_clause_123 (by decide) ?_
            exact jn_127 1 L_682 f_683 _ _ ls ⟨by omega, by omega⟩ hWF hKP hX9 hX10 hX11 hX12 hFK hTR hV10 (by first | omega | (intros; omega)) (by first | omega | (intros; omega)) (by first | omega | (intros; omega)) hw (lv_sub hl [0, 1] rfl)
      · skip
        have tc_152 := ti_ne c_152
        exact py_vret G0 hr hlk hw ⟨(by first | omega | (intro q; omega)), (by first | omega | (intro q; omega)), (by first | omega | (intro q; omega)), ⟨hTR.tp, hX10, hX11, hX12, hX9, by omega⟩, (fun hw => by first | exact absurd hw (by omega) | exact ⟨co_a hTR hw (by omega) (by omega) (by omega) (by omega), by omega⟩), hWF, hKP, hFK⟩ dX12_clause_88
    refine lv_icmp_ne (tgt := 70) G0.1 G0.2.1 dX12_clause_54 (by decide) (fun c_702 => ?_) (fun c_702 => ?_)
    · skip
      have tc_702 := ti_ne c_702
      exact jn_70 L_j39 f_89 _ _ ls hWF hKP hX9 hX10 hX11 hX12 hFK hTR (by first | omega | (intros; omega)) (by first | omega | (intros; omega)) (by first | omega | (intros; omega)) (by first | omega | (intros; omega)) hw (lv_sub hl [0, 1] rfl)
    · skip
      have tc_702 := ti_eq c_702
      refine lv_aload_n G0.1 G0.2.1 dX12_clause_57 rfl (lv_at hl 1 rfl) ?_
      refine py_calli hw (va_runV (As := []) (rest := []) G0 (c_X12_look l E G L_j39 f_89 H_90.size u hG hWF Tu (show 0 ≤ mi f_89 u 3 ∧ mi f_89 u 3 ≤ mi f_89 u 2 by omega)) (cwV 0 G0.2.2.2.2 g_X12_clause_X12_look_146 rfl rfl rfl (by decide +kernel) ⟨(Nat.le_of_ble_eq_true rfl), (Nat.le_of_ble_eq_true rfl)⟩) (py_preV hw (C := RX12) (T := TX12) (N := 54) rfl h_91) rfl rfl hl.1 rfl (lv_room (Nat.le_of_ble_eq_true rfl)) dX12_clause_58 ⟨(Nat.le_of_ble_eq_true rfl), (Nat.le_of_ble_eq_true rfl)⟩) (fun r_707 L_703 f_704 H_705 locs hp_706 hw => ?_)
      obtain ⟨en_708, en_709, en_710, hWF, kp_711, fk_712⟩ := hp_706
      have hX9 := hX9.same (kp_f kp_711 (wt12_9 hG Tu) (by decide) (by decide) (fun _ => by decide))
      have hX10 := hX10.same (kp_f kp_711 (wt12_10 hG Tu) (by decide) (by decide) (fun _ => by decide))
      have hX11 := hX11.same (kp_f kp_711 (wt12_11 hG Tu) (by decide) (by decide) (fun _ => by decide))
      have hX12 := hX12.same (kp_f kp_711 (wt12_12 hG Tu) (by decide) (by decide) (fun _ => by decide))
      have cq_713 := cdv_k hG Tu kp_711 fk_712 (by decide)
      have kq_714 := clv_k hG Tu kp_711 fk_712 (by decide)
      have hFK := hFK.trans fk_712 (by decide)
      have hKP := hKP.trans kp_711 (by decide) (by decide)
      obtain ⟨v_715, hr_716⟩ := fk_3 hWF Tu fk_712 h_91
      have tq_717 := mi_row hr_716 2 rfl
      have tq_718 := mi_row hr_716 3 rfl
      have bv_715 := wf_free v_715
      have tq_719 := mi_row hr_716 4 rfl
      have bv_51 := wf_free v_51
      have tq_720 := mi_row hr_716 5 rfl
      have bv_52 := wf_free v_52
      have tq_721 := mi_row hr_716 14 rfl
      have hTR := hTR.kp hG Tu kp_711 fk_712 (by decide) (fun q => by omega)
      have br_707 := wf_free r_707
      refine lv_bipush (v := 58) G0.1 G0.2.1 dX12_clause_61 (by decide) ?_
      refine lv_icmp_eq (tgt := 70) G0.1 G0.2.1 dX12_clause_63 (by decide) (fun c_722 => ?_) (fun c_722 => ?_)
      · skip
        have tc_722 := ti_eq c_722
        replace en_709 := en_709 (by omega)
        exact jn_70 L_703 f_704 _ _ ls hWF hKP hX9 hX10 hX11 hX12 hFK hTR (by first | omega | (intros; omega)) (by first | omega | (intros; omega)) (by first | omega | (intros; omega)) (by first | omega | (intros; omega)) hw (lv_sub hl [0, 1] rfl)
      · skip
        have tc_722 := ti_ne c_722
        refine lv_aload_n G0.1 G0.2.1 dX12_clause_66 rfl (lv_at hl 1 rfl) ?_
        refine py_callv hw (va_runV (As := []) (rest := []) G0 (c_X12_bad l E G L_703 f_704 H_705.size u hG hWF Tu (show 0 ≤ mi f_704 u 3 by omega)) (cwV 0 G0.2.2.2.2 g_X12_clause_X12_bad_143 rfl rfl rfl (by decide +kernel) ⟨(Nat.le_of_ble_eq_true rfl), (Nat.le_of_ble_eq_true rfl)⟩) (py_preV hw (C := RX12) (T := TX12) (N := 54) rfl hr_716) rfl rfl hl.1 rfl (lv_room (Nat.le_of_ble_eq_true rfl)) dX12_clause_67 ⟨(Nat.le_of_ble_eq_true rfl), (Nat.le_of_ble_eq_true rfl)⟩) (fun L_723 f_724 H_725 locs hp_726 hw => ?_)
        obtain ⟨en_728, en_729, hWF, kp_730, fk_731⟩ := hp_726
        have hX9 := hX9.same (kp_f kp_730 (wt12_9 hG Tu) (by decide) (by decide) (fun _ => by decide))
        have hX10 := hX10.same (kp_f kp_730 (wt12_10 hG Tu) (by decide) (by decide) (fun _ => by decide))
        have hX11 := hX11.same (kp_f kp_730 (wt12_11 hG Tu) (by decide) (by decide) (fun _ => by decide))
        have hX12 := hX12.same (kp_f kp_730 (wt12_12 hG Tu) (by decide) (by decide) (fun _ => by decide))
        have cq_732 := cdv_k hG Tu kp_730 fk_731 (by decide)
        have kq_733 := clv_k hG Tu kp_730 fk_731 (by decide)
        have hFK := hFK.trans fk_731 (by decide)
        have hKP := hKP.trans kp_730 (by decide) (by decide)
        obtain ⟨v_734, hr_735⟩ := fk_4 hWF Tu fk_731 hr_716
        have tq_736 := mi_row hr_735 2 rfl
        have tq_737 := mi_row hr_735 3 rfl
        have bv_715 := wf_free v_715
        have tq_738 := mi_row hr_735 4 rfl
        have bv_734 := wf_free v_734
        have tq_739 := mi_row hr_735 5 rfl
        have bv_52 := wf_free v_52
        have tq_740 := mi_row hr_735 14 rfl
        have hTR := hTR.kp hG Tu kp_730 fk_731 (by decide) (fun q => by omega)
        exact jn_70 L_723 f_724 _ _ ls hWF hKP hX9 hX10 hX11 hX12 hFK hTR (by first | omega | (intros; omega)) (by first | omega | (intros; omega)) (by first | omega | (intros; omega)) (by first | omega | (intros; omega)) hw (lv_sub hl [0, 1] rfl)
  refine lv_icmp_ne (tgt := 39) G0.1 G0.2.1 dX12_clause_23 (by decide) (fun c_741 => ?_) (fun c_741 => ?_)
  · skip
    have tc_741 := ti_ne c_741
    exfalso; omega
  · skip
    have tc_741 := ti_eq c_741
    refine lv_aload_n G0.1 G0.2.1 dX12_clause_26 rfl (lv_at hl 1 rfl) ?_
    refine py_calli hw (va_runV (As := []) (rest := []) G0 (c_X12_look l E G L f s.heap.size u hG hWF Tu (show 0 ≤ mi f u 3 ∧ mi f u 3 ≤ mi f u 2 by omega)) (cwV 0 G0.2.2.2.2 g_X12_clause_X12_look_146 rfl rfl rfl (by decide +kernel) ⟨(Nat.le_of_ble_eq_true rfl), (Nat.le_of_ble_eq_true rfl)⟩) (py_preV hw (C := RX12) (T := TX12) (N := 54) rfl hr_35) rfl rfl hl.1 rfl (lv_room (Nat.le_of_ble_eq_true rfl)) dX12_clause_27 ⟨(Nat.le_of_ble_eq_true rfl), (Nat.le_of_ble_eq_true rfl)⟩) (fun r_746 L_742 f_743 H_744 locs hp_745 hw => ?_)
    obtain ⟨en_747, en_748, en_749, hWF, kp_750, fk_751⟩ := hp_745
    have hX9 := hX9.same (kp_f kp_750 (wt12_9 hG Tu) (by decide) (by decide) (fun _ => by decide))
    have hX10 := hX10.same (kp_f kp_750 (wt12_10 hG Tu) (by decide) (by decide) (fun _ => by decide))
    have hX11 := hX11.same (kp_f kp_750 (wt12_11 hG Tu) (by decide) (by decide) (fun _ => by decide))
    have hX12 := hX12.same (kp_f kp_750 (wt12_12 hG Tu) (by decide) (by decide) (fun _ => by decide))
    have cq_752 := cdv_k hG Tu kp_750 fk_751 (by decide)
    have kq_753 := clv_k hG Tu kp_750 fk_751 (by decide)
    have hFK := hFK.trans fk_751 (by decide)
    have hKP := hKP.trans kp_750 (by decide) (by decide)
    obtain ⟨v_754, hr_755⟩ := fk_3 hWF Tu fk_751 hr_35
    have tq_756 := mi_row hr_755 2 rfl
    have tq_757 := mi_row hr_755 3 rfl
    have bv_754 := wf_free v_754
    have tq_758 := mi_row hr_755 4 rfl
    have bv_4 := wf_free v_4
    have tq_759 := mi_row hr_755 5 rfl
    have bv_5 := wf_free v_5
    have tq_760 := mi_row hr_755 14 rfl
    have ha_43 := kp_at kp_750 hWF (wt12_9 hG Tu) (by decide) (by decide) (by decide) ha_43
    have hTR := hTR.kp hG Tu kp_750 fk_751 (by decide) (fun q => by omega)
    have br_746 := wf_free r_746
    refine lv_bipush (v := 121) G0.1 G0.2.1 dX12_clause_30 (by decide) ?_
    refine lv_icmp_eq (tgt := 39) G0.1 G0.2.1 dX12_clause_32 (by decide) (fun c_761 => ?_) (fun c_761 => ?_)
    · skip
      have tc_761 := ti_eq c_761
      replace en_748 := en_748 (by omega)
      exact jn_39 L_742 f_743 _ _ ls hWF hKP hX9 hX10 hX11 hX12 hFK hTR (by first | omega | (intros; omega)) (by first | omega | (intros; omega)) (by first | omega | (intros; omega)) (by first | omega | (intros; omega)) hw (lv_sub hl [0, 1] rfl)
    · skip
      have tc_761 := ti_ne c_761
      refine lv_aload_n G0.1 G0.2.1 dX12_clause_35 rfl (lv_at hl 1 rfl) ?_
      refine py_callv hw (va_runV (As := []) (rest := []) G0 (c_X12_bad l E G L_742 f_743 H_744.size u hG hWF Tu (show 0 ≤ mi f_743 u 3 by omega)) (cwV 0 G0.2.2.2.2 g_X12_clause_X12_bad_143 rfl rfl rfl (by decide +kernel) ⟨(Nat.le_of_ble_eq_true rfl), (Nat.le_of_ble_eq_true rfl)⟩) (py_preV hw (C := RX12) (T := TX12) (N := 54) rfl hr_755) rfl rfl hl.1 rfl (lv_room (Nat.le_of_ble_eq_true rfl)) dX12_clause_36 ⟨(Nat.le_of_ble_eq_true rfl), (Nat.le_of_ble_eq_true rfl)⟩) (fun L_762 f_763 H_764 locs hp_765 hw => ?_)
      obtain ⟨en_767, en_768, hWF, kp_769, fk_770⟩ := hp_765
      have hX9 := hX9.same (kp_f kp_769 (wt12_9 hG Tu) (by decide) (by decide) (fun _ => by decide))
      have hX10 := hX10.same (kp_f kp_769 (wt12_10 hG Tu) (by decide) (by decide) (fun _ => by decide))
      have hX11 := hX11.same (kp_f kp_769 (wt12_11 hG Tu) (by decide) (by decide) (fun _ => by decide))
      have hX12 := hX12.same (kp_f kp_769 (wt12_12 hG Tu) (by decide) (by decide) (fun _ => by decide))
      have cq_771 := cdv_k hG Tu kp_769 fk_770 (by decide)
      have kq_772 := clv_k hG Tu kp_769 fk_770 (by decide)
      have hFK := hFK.trans fk_770 (by decide)
      have hKP := hKP.trans kp_769 (by decide) (by decide)
      obtain ⟨v_773, hr_774⟩ := fk_4 hWF Tu fk_770 hr_755
      have tq_775 := mi_row hr_774 2 rfl
      have tq_776 := mi_row hr_774 3 rfl
      have bv_754 := wf_free v_754
      have tq_777 := mi_row hr_774 4 rfl
      have bv_773 := wf_free v_773
      have tq_778 := mi_row hr_774 5 rfl
      have bv_5 := wf_free v_5
      have tq_779 := mi_row hr_774 14 rfl
      have ha_43 := kp_at kp_769 hWF (wt12_9 hG Tu) (by decide) (by decide) (by decide) ha_43
      have hTR := hTR.kp hG Tu kp_769 fk_770 (by decide) (fun q => by omega)
      exact jn_39 L_762 f_763 _ _ ls hWF hKP hX9 hX10 hX11 hX12 hFK hTR (by first | omega | (intros; omega)) (by first | omega | (intros; omega)) (by first | omega | (intros; omega)) (by first | omega | (intros; omega)) hw (lv_sub hl [0, 1] rfl)
