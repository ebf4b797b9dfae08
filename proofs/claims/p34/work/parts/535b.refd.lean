theorem dX12_spring_0 : decode cX12_spring 0 = .ok (.aload_n 0, 1) := by decide +kernel
theorem dX12_spring_1 : decode cX12_spring 1 = .ok (.getfield 290, 3) := by decide +kernel
theorem dX12_spring_4 : decode cX12_spring 4 = .ok (.ifCond .ne 5, 3) := by decide +kernel
theorem dX12_spring_7 : decode cX12_spring 7 = .ok (.iconst (-1), 1) := by decide +kernel
theorem dX12_spring_8 : decode cX12_spring 8 = .ok (.ireturn, 1) := by decide +kernel
theorem dX12_spring_9 : decode cX12_spring 9 = .ok (.aload_n 0, 1) := by decide +kernel
theorem dX12_spring_10 : decode cX12_spring 10 = .ok (.iconst 0, 1) := by decide +kernel
theorem dX12_spring_11 : decode cX12_spring 11 = .ok (.putfield 312, 3) := by decide +kernel
theorem dX12_spring_14 : decode cX12_spring 14 = .ok (.aload_n 0, 1) := by decide +kernel
theorem dX12_spring_15 : decode cX12_spring 15 = .ok (.invokevirtual 379, 3) := by decide +kernel
theorem dX12_spring_18 : decode cX12_spring 18 = .ok (.ireturn, 1) := by decide +kernel
theorem dX12_springs_0 : decode cX12_springs 0 = .ok (.iconst 0, 1) := by decide +kernel
theorem dX12_springs_1 : decode cX12_springs 1 = .ok (.istore_n 1, 1) := by decide +kernel
theorem dX12_springs_2 : decode cX12_springs 2 = .ok (.iload_n 1, 1) := by decide +kernel
theorem dX12_springs_3 : decode cX12_springs 3 = .ok (.aload_n 0, 1) := by decide +kernel
theorem dX12_springs_4 : decode cX12_springs 4 = .ok (.getfield 290, 3) := by decide +kernel
theorem dX12_springs_7 : decode cX12_springs 7 = .ok (.if_icmp .ge 63, 3) := by decide +kernel
theorem dX12_springs_10 : decode cX12_springs 10 = .ok (.aload_n 0, 1) := by decide +kernel
theorem dX12_springs_11 : decode cX12_springs 11 = .ok (.iload_n 1, 1) := by decide +kernel
theorem dX12_springs_12 : decode cX12_springs 12 = .ok (.invokevirtual 341, 3) := by decide +kernel
theorem dX12_springs_15 : decode cX12_springs 15 = .ok (.ifCond .ne 49, 3) := by decide +kernel
theorem dX12_springs_18 : decode cX12_springs 18 = .ok (.aload_n 0, 1) := by decide +kernel
theorem dX12_springs_19 : decode cX12_springs 19 = .ok (.iload_n 1, 1) := by decide +kernel
theorem dX12_springs_20 : decode cX12_springs 20 = .ok (.iconst 3, 1) := by decide +kernel
theorem dX12_springs_21 : decode cX12_springs 21 = .ok (.aload_n 0, 1) := by decide +kernel
theorem dX12_springs_22 : decode cX12_springs 22 = .ok (.iload_n 1, 1) := by decide +kernel
theorem dX12_springs_23 : decode cX12_springs 23 = .ok (.iconst 3, 1) := by decide +kernel
theorem dX12_springs_24 : decode cX12_springs 24 = .ok (.invokevirtual 287, 3) := by decide +kernel
theorem dX12_springs_27 : decode cX12_springs 27 = .ok (.aload_n 0, 1) := by decide +kernel
theorem dX12_springs_28 : decode cX12_springs 28 = .ok (.iload_n 1, 1) := by decide +kernel
theorem dX12_springs_29 : decode cX12_springs 29 = .ok (.bipush 6, 2) := by decide +kernel
theorem dX12_springs_31 : decode cX12_springs 31 = .ok (.invokevirtual 287, 3) := by decide +kernel
theorem dX12_springs_34 : decode cX12_springs 34 = .ok (.iadd, 1) := by decide +kernel
theorem dX12_springs_35 : decode cX12_springs 35 = .ok (.invokevirtual 305, 3) := by decide +kernel
theorem dX12_springs_38 : decode cX12_springs 38 = .ok (.aload_n 0, 1) := by decide +kernel
theorem dX12_springs_39 : decode cX12_springs 39 = .ok (.iload_n 1, 1) := by decide +kernel
theorem dX12_springs_40 : decode cX12_springs 40 = .ok (.bipush 6, 2) := by decide +kernel
theorem dX12_springs_42 : decode cX12_springs 42 = .ok (.iconst 0, 1) := by decide +kernel
theorem dX12_springs_43 : decode cX12_springs 43 = .ok (.invokevirtual 305, 3) := by decide +kernel
theorem dX12_springs_46 : decode cX12_springs 46 = .ok (.aload_n 0, 1) := by decide +kernel
theorem dX12_springs_47 : decode cX12_springs 47 = .ok (.iload_n 1, 1) := by decide +kernel
theorem dX12_springs_48 : decode cX12_springs 48 = .ok (.iconst 3, 1) := by decide +kernel
theorem dX12_springs_49 : decode cX12_springs 49 = .ok (.aload_n 0, 1) := by decide +kernel
theorem dX12_springs_50 : decode cX12_springs 50 = .ok (.iload_n 1, 1) := by decide +kernel
theorem dX12_springs_51 : decode cX12_springs 51 = .ok (.invokevirtual 351, 3) := by decide +kernel
theorem dX12_springs_54 : decode cX12_springs 54 = .ok (.aload_n 0, 1) := by decide +kernel
theorem dX12_springs_55 : decode cX12_springs 55 = .ok (.iload_n 1, 1) := by decide +kernel
theorem dX12_springs_56 : decode cX12_springs 56 = .ok (.iconst 1, 1) := by decide +kernel
theorem dX12_springs_57 : decode cX12_springs 57 = .ok (.invokevirtual 287, 3) := by decide +kernel
theorem dX12_springs_60 : decode cX12_springs 60 = .ok (.isub, 1) := by decide +kernel
theorem dX12_springs_61 : decode cX12_springs 61 = .ok (.invokevirtual 305, 3) := by decide +kernel
theorem dX12_springs_64 : decode cX12_springs 64 = .ok (.iinc 1 1, 3) := by decide +kernel
theorem dX12_springs_67 : decode cX12_springs 67 = .ok (.goto (-65), 3) := by decide +kernel
theorem dX12_springs_70 : decode cX12_springs 70 = .ok (.iconst 0, 1) := by decide +kernel
theorem dX12_springs_71 : decode cX12_springs 71 = .ok (.istore_n 1, 1) := by decide +kernel
theorem dX12_springs_72 : decode cX12_springs 72 = .ok (.iconst 1, 1) := by decide +kernel
theorem dX12_springs_73 : decode cX12_springs 73 = .ok (.istore_n 2, 1) := by decide +kernel
theorem dX12_springs_74 : decode cX12_springs 74 = .ok (.iload_n 2, 1) := by decide +kernel
theorem dX12_springs_75 : decode cX12_springs 75 = .ok (.ifCond .eq 129, 3) := by decide +kernel
theorem dX12_springs_78 : decode cX12_springs 78 = .ok (.aload_n 0, 1) := by decide +kernel
theorem dX12_springs_79 : decode cX12_springs 79 = .ok (.invokevirtual 396, 3) := by decide +kernel
theorem dX12_springs_82 : decode cX12_springs 82 = .ok (.istore_n 3, 1) := by decide +kernel
theorem dX12_springs_83 : decode cX12_springs 83 = .ok (.iload_n 3, 1) := by decide +kernel
theorem dX12_springs_84 : decode cX12_springs 84 = .ok (.iconst (-1), 1) := by decide +kernel
theorem dX12_springs_85 : decode cX12_springs 85 = .ok (.if_icmp .ne 10, 3) := by decide +kernel
theorem dX12_springs_88 : decode cX12_springs 88 = .ok (.aload_n 0, 1) := by decide +kernel
theorem dX12_springs_89 : decode cX12_springs 89 = .ok (.invokevirtual 399, 3) := by decide +kernel
theorem dX12_springs_92 : decode cX12_springs 92 = .ok (.goto 4, 3) := by decide +kernel
theorem dX12_springs_95 : decode cX12_springs 95 = .ok (.iconst (-1), 1) := by decide +kernel
theorem dX12_springs_96 : decode cX12_springs 96 = .ok (.istore 4, 2) := by decide +kernel
theorem dX12_springs_98 : decode cX12_springs 98 = .ok (.iload_n 3, 1) := by decide +kernel
theorem dX12_springs_99 : decode cX12_springs 99 = .ok (.iconst (-1), 1) := by decide +kernel
theorem dX12_springs_100 : decode cX12_springs 100 = .ok (.if_icmp .ne 9, 3) := by decide +kernel
theorem dX12_springs_103 : decode cX12_springs 103 = .ok (.iload 4, 2) := by decide +kernel
theorem dX12_springs_105 : decode cX12_springs 105 = .ok (.iconst (-1), 1) := by decide +kernel
theorem dX12_springs_106 : decode cX12_springs 106 = .ok (.if_icmp .eq 7, 3) := by decide +kernel
theorem dX12_springs_109 : decode cX12_springs 109 = .ok (.iconst 1, 1) := by decide +kernel
theorem dX12_springs_110 : decode cX12_springs 110 = .ok (.goto 4, 3) := by decide +kernel
theorem dX12_springs_113 : decode cX12_springs 113 = .ok (.iconst 0, 1) := by decide +kernel
theorem dX12_springs_114 : decode cX12_springs 114 = .ok (.istore_n 2, 1) := by decide +kernel
theorem dX12_springs_115 : decode cX12_springs 115 = .ok (.iload_n 3, 1) := by decide +kernel
theorem dX12_springs_116 : decode cX12_springs 116 = .ok (.iconst (-1), 1) := by decide +kernel
theorem dX12_springs_117 : decode cX12_springs 117 = .ok (.if_icmp .eq 69, 3) := by decide +kernel
theorem dX12_springs_120 : decode cX12_springs 120 = .ok (.aload_n 0, 1) := by decide +kernel
theorem dX12_springs_121 : decode cX12_springs 121 = .ok (.iload_n 3, 1) := by decide +kernel
theorem dX12_springs_122 : decode cX12_springs 122 = .ok (.invokevirtual 351, 3) := by decide +kernel
theorem dX12_springs_125 : decode cX12_springs 125 = .ok (.istore 5, 2) := by decide +kernel
theorem dX12_springs_127 : decode cX12_springs 127 = .ok (.aload_n 0, 1) := by decide +kernel
theorem dX12_springs_128 : decode cX12_springs 128 = .ok (.iload 5, 2) := by decide +kernel
theorem dX12_springs_130 : decode cX12_springs 130 = .ok (.aload_n 0, 1) := by decide +kernel
theorem dX12_springs_131 : decode cX12_springs 131 = .ok (.getfield 354, 3) := by decide +kernel
theorem dX12_springs_134 : decode cX12_springs 134 = .ok (.iconst 1, 1) := by decide +kernel
theorem dX12_springs_135 : decode cX12_springs 135 = .ok (.if_icmp .ne 16, 3) := by decide +kernel
theorem dX12_springs_138 : decode cX12_springs 138 = .ok (.aload_n 0, 1) := by decide +kernel
theorem dX12_springs_139 : decode cX12_springs 139 = .ok (.aload_n 0, 1) := by decide +kernel
theorem dX12_springs_140 : decode cX12_springs 140 = .ok (.iload 5, 2) := by decide +kernel
theorem dX12_springs_142 : decode cX12_springs 142 = .ok (.invokevirtual 333, 3) := by decide +kernel
theorem dX12_springs_145 : decode cX12_springs 145 = .ok (.invokevirtual 368, 3) := by decide +kernel
theorem dX12_springs_148 : decode cX12_springs 148 = .ok (.goto 4, 3) := by decide +kernel
theorem dX12_springs_151 : decode cX12_springs 151 = .ok (.iconst 0, 1) := by decide +kernel
theorem dX12_springs_152 : decode cX12_springs 152 = .ok (.invokevirtual 299, 3) := by decide +kernel
theorem dX12_springs_155 : decode cX12_springs 155 = .ok (.istore 6, 2) := by decide +kernel
theorem dX12_springs_157 : decode cX12_springs 157 = .ok (.aload_n 0, 1) := by decide +kernel
theorem dX12_springs_158 : decode cX12_springs 158 = .ok (.iload_n 3, 1) := by decide +kernel
theorem dX12_springs_159 : decode cX12_springs 159 = .ok (.iconst 1, 1) := by decide +kernel
theorem dX12_springs_160 : decode cX12_springs 160 = .ok (.iload 5, 2) := by decide +kernel
theorem dX12_springs_162 : decode cX12_springs 162 = .ok (.invokevirtual 305, 3) := by decide +kernel
theorem dX12_springs_165 : decode cX12_springs 165 = .ok (.aload_n 0, 1) := by decide +kernel
theorem dX12_springs_166 : decode cX12_springs 166 = .ok (.iload_n 3, 1) := by decide +kernel
theorem dX12_springs_167 : decode cX12_springs 167 = .ok (.iconst 2, 1) := by decide +kernel
theorem dX12_springs_168 : decode cX12_springs 168 = .ok (.iload 6, 2) := by decide +kernel
theorem dX12_springs_170 : decode cX12_springs 170 = .ok (.invokevirtual 305, 3) := by decide +kernel
theorem dX12_springs_173 : decode cX12_springs 173 = .ok (.aload_n 0, 1) := by decide +kernel
theorem dX12_springs_174 : decode cX12_springs 174 = .ok (.iload_n 3, 1) := by decide +kernel
theorem dX12_springs_175 : decode cX12_springs 175 = .ok (.iconst 3, 1) := by decide +kernel
theorem dX12_springs_176 : decode cX12_springs 176 = .ok (.iconst 0, 1) := by decide +kernel
theorem dX12_springs_177 : decode cX12_springs 177 = .ok (.invokevirtual 305, 3) := by decide +kernel
theorem dX12_springs_180 : decode cX12_springs 180 = .ok (.iinc 1 1, 3) := by decide +kernel
theorem dX12_springs_183 : decode cX12_springs 183 = .ok (.goto 18, 3) := by decide +kernel
theorem dX12_springs_186 : decode cX12_springs 186 = .ok (.iload 4, 2) := by decide +kernel
theorem dX12_springs_188 : decode cX12_springs 188 = .ok (.iconst (-1), 1) := by decide +kernel
theorem dX12_springs_189 : decode cX12_springs 189 = .ok (.if_icmp .eq 12, 3) := by decide +kernel
theorem dX12_springs_192 : decode cX12_springs 192 = .ok (.iload_n 1, 1) := by decide +kernel
theorem dX12_springs_193 : decode cX12_springs 193 = .ok (.aload_n 0, 1) := by decide +kernel
theorem dX12_springs_194 : decode cX12_springs 194 = .ok (.iload 4, 2) := by decide +kernel
theorem dX12_springs_196 : decode cX12_springs 196 = .ok (.invokevirtual 402, 3) := by decide +kernel
theorem dX12_springs_199 : decode cX12_springs 199 = .ok (.iadd, 1) := by decide +kernel
theorem dX12_springs_200 : decode cX12_springs 200 = .ok (.istore_n 1, 1) := by decide +kernel
theorem dX12_springs_201 : decode cX12_springs 201 = .ok (.goto (-127), 3) := by decide +kernel
theorem dX12_springs_204 : decode cX12_springs 204 = .ok (.iload_n 1, 1) := by decide +kernel
theorem dX12_springs_205 : decode cX12_springs 205 = .ok (.ireturn, 1) := by decide +kernel
def w_X12_springs : List Cond := .code yX12_springs cX12_springs 7 (some .int) :: ([Cond.fieldLink RX12 290 "HeadYearModel" "families" "I", Cond.methodLink RX12 396 yX12_goer, Cond.instanceMethod yX12_goer, Cond.selects RX12 yX12_goer yX12_goer, Cond.initialized RX12, Cond.methodLink RX12 351 yX12_want, Cond.instanceMethod yX12_want, Cond.selects RX12 yX12_want yX12_want, Cond.fieldLink RX12 354 "HeadYearModel" "luck" "I", Cond.methodLink RX12 299 yX12_emptyHut, Cond.instanceMethod yX12_emptyHut, Cond.selects RX12 yX12_emptyHut yX12_emptyHut, Cond.methodLink RX12 305 yX12_tell, Cond.instanceMethod yX12_tell, Cond.selects RX12 yX12_tell yX12_tell, Cond.methodLink RX12 333 yX12_empties, Cond.instanceMethod yX12_empties, Cond.selects RX12 yX12_empties yX12_empties, Cond.methodLink RX12 368 yX12_draw, Cond.instanceMethod yX12_draw, Cond.selects RX12 yX12_draw yX12_draw, Cond.methodLink RX12 399 yX12_ring, Cond.instanceMethod yX12_ring, Cond.selects RX12 yX12_ring yX12_ring, Cond.methodLink RX12 402 yX12_turn, Cond.instanceMethod yX12_turn, Cond.selects RX12 yX12_turn yX12_turn, Cond.methodLink RX12 341 yX12_isGone, Cond.instanceMethod yX12_isGone, Cond.selects RX12 yX12_isGone yX12_isGone, Cond.methodLink RX12 287 yX12_of, Cond.instanceMethod yX12_of, Cond.selects RX12 yX12_of yX12_of] ++ (u_ws RX12 TX12 54 ++ (w_X12_goer ++ (w_X12_want ++ (w_X12_emptyHut ++ (w_X12_tell ++ (w_X12_empties ++ (w_X12_draw ++ (w_X12_ring ++ (w_X12_turn ++ (w_X12_isGone ++ (w_X12_of ++ ([])))))))))))))
theorem in_X12_springs_X12 : ∀ w ∈ u_ws RX12 TX12 54, w ∈ w_X12_springs := fun _ h => List.mem_cons_of_mem _ (List.mem_append_right _ (List.mem_append_left _ h))
theorem gg_X12_springs_X12_goer : GoodIn w_X12_springs w_X12_goer := goodIn_sub (fun _ h => List.mem_cons_of_mem _ (List.mem_append_right _ (List.mem_append_right _ (List.mem_append_left _ h)))) (by decide +kernel)
theorem gg_X12_springs_X12_want : GoodIn w_X12_springs w_X12_want := goodIn_sub (fun _ h => List.mem_cons_of_mem _ (List.mem_append_right _ (List.mem_append_right _ (List.mem_append_right _ (List.mem_append_left _ h))))) (by decide +kernel)
theorem gg_X12_springs_X12_emptyHut : GoodIn w_X12_springs w_X12_emptyHut := goodIn_sub (fun _ h => List.mem_cons_of_mem _ (List.mem_append_right _ (List.mem_append_right _ (List.mem_append_right _ (List.mem_append_right _ (List.mem_append_left _ h)))))) (by decide +kernel)
theorem gg_X12_springs_X12_tell : GoodIn w_X12_springs w_X12_tell := goodIn_sub (fun _ h => List.mem_cons_of_mem _ (List.mem_append_right _ (List.mem_append_right _ (List.mem_append_right _ (List.mem_append_right _ (List.mem_append_right _ (List.mem_append_left _ h))))))) (by decide +kernel)
theorem gg_X12_springs_X12_empties : GoodIn w_X12_springs w_X12_empties := goodIn_sub (fun _ h => List.mem_cons_of_mem _ (List.mem_append_right _ (List.mem_append_right _ (List.mem_append_right _ (List.mem_append_right _ (List.mem_append_right _ (List.mem_append_right _ (List.mem_append_left _ h)))))))) (by decide +kernel)
theorem gg_X12_springs_X12_draw : GoodIn w_X12_springs w_X12_draw := goodIn_sub (fun _ h => List.mem_cons_of_mem _ (List.mem_append_right _ (List.mem_append_right _ (List.mem_append_right _ (List.mem_append_right _ (List.mem_append_right _ (List.mem_append_right _ (List.mem_append_right _ (List.mem_append_left _ h))))))))) (by decide +kernel)
theorem gg_X12_springs_X12_ring : GoodIn w_X12_springs w_X12_ring := goodIn_sub (fun _ h => List.mem_cons_of_mem _ (List.mem_append_right _ (List.mem_append_right _ (List.mem_append_right _ (List.mem_append_right _ (List.mem_append_right _ (List.mem_append_right _ (List.mem_append_right _ (List.mem_append_right _ (List.mem_append_left _ h)))))))))) (by decide +kernel)
theorem gg_X12_springs_X12_turn : GoodIn w_X12_springs w_X12_turn := goodIn_sub (fun _ h => List.mem_cons_of_mem _ (List.mem_append_right _ (List.mem_append_right _ (List.mem_append_right _ (List.mem_append_right _ (List.mem_append_right _ (List.mem_append_right _ (List.mem_append_right _ (List.mem_append_right _ (List.mem_append_right _ (List.mem_append_left _ h))))))))))) (by decide +kernel)
theorem gg_X12_springs_X12_isGone : GoodIn w_X12_springs w_X12_isGone := goodIn_sub (fun _ h => List.mem_cons_of_mem _ (List.mem_append_right _ (List.mem_append_right _ (List.mem_append_right _ (List.mem_append_right _ (List.mem_append_right _ (List.mem_append_right _ (List.mem_append_right _ (List.mem_append_right _ (List.mem_append_right _ (List.mem_append_right _ (List.mem_append_left _ h)))))))))))) (by decide +kernel)
theorem gg_X12_springs_X12_of : GoodIn w_X12_springs w_X12_of := goodIn_sub (fun _ h => List.mem_cons_of_mem _ (List.mem_append_right _ (List.mem_append_right _ (List.mem_append_right _ (List.mem_append_right _ (List.mem_append_right _ (List.mem_append_right _ (List.mem_append_right _ (List.mem_append_right _ (List.mem_append_right _ (List.mem_append_right _ (List.mem_append_right _ (List.mem_append_left _ h))))))))))))) (by decide +kernel)
theorem g_X12_springs_X12_draw_368 : GoodIn w_X12_springs (wsV RX12 368 RX12 yX12_draw w_X12_draw) := goodIn_app (goodIn_of _ (by decide +kernel)) gg_X12_springs_X12_draw
theorem g_X12_springs_X12_empties_333 : GoodIn w_X12_springs (wsV RX12 333 RX12 yX12_empties w_X12_empties) := goodIn_app (goodIn_of _ (by decide +kernel)) gg_X12_springs_X12_empties
theorem g_X12_springs_X12_emptyHut_299 : GoodIn w_X12_springs (wsV RX12 299 RX12 yX12_emptyHut w_X12_emptyHut) := goodIn_app (goodIn_of _ (by decide +kernel)) gg_X12_springs_X12_emptyHut
theorem g_X12_springs_X12_goer_396 : GoodIn w_X12_springs (wsV RX12 396 RX12 yX12_goer w_X12_goer) := goodIn_app (goodIn_of _ (by decide +kernel)) gg_X12_springs_X12_goer
theorem g_X12_springs_X12_isGone_341 : GoodIn w_X12_springs (wsV RX12 341 RX12 yX12_isGone w_X12_isGone) := goodIn_app (goodIn_of _ (by decide +kernel)) gg_X12_springs_X12_isGone
theorem g_X12_springs_X12_of_287 : GoodIn w_X12_springs (wsV RX12 287 RX12 yX12_of w_X12_of) := goodIn_app (goodIn_of _ (by decide +kernel)) gg_X12_springs_X12_of
theorem g_X12_springs_X12_ring_399 : GoodIn w_X12_springs (wsV RX12 399 RX12 yX12_ring w_X12_ring) := goodIn_app (goodIn_of _ (by decide +kernel)) gg_X12_springs_X12_ring
theorem g_X12_springs_X12_tell_305 : GoodIn w_X12_springs (wsV RX12 305 RX12 yX12_tell w_X12_tell) := goodIn_app (goodIn_of _ (by decide +kernel)) gg_X12_springs_X12_tell
theorem g_X12_springs_X12_turn_402 : GoodIn w_X12_springs (wsV RX12 402 RX12 yX12_turn w_X12_turn) := goodIn_app (goodIn_of _ (by decide +kernel)) gg_X12_springs_X12_turn
theorem g_X12_springs_X12_want_351 : GoodIn w_X12_springs (wsV RX12 351 RX12 yX12_want w_X12_want) := goodIn_app (goodIn_of _ (by decide +kernel)) gg_X12_springs_X12_want
theorem fk_30 {E : py_E} {G : wf_G} {L L1 : List Nat} {f f1 : py_F} {m : Nat} (hWF : WF E G L1 f1) (Tm : G.1 m = 13) (h : FK [30] f f1 m) {v0 : Int32} {v2 : Int32} {v3 : Int32} {v4 : Int32} {v5 : Int32} {v13 : Int32} {v14 : Int32} {v19 : Int32} {v20 : Int32} {v24 : Int32} {v25 : Int32} {v29 : Int32} {v30 : Int64} {v31 : Int32} {v32 : Int32} {v33 : Int32} {v34 : Int32} {v43 : Int32} {v48 : Int64} {v51 : Int32} {v52 : Int64} {v53 : Int32} (hr : py_at L f m (.inr (12, [.int v0, .ref (G.2 m 1), .int v2, .int v3, .int v4, .int v5, .ref (G.2 m 6), .ref (G.2 m 7), .ref (G.2 m 8), .ref (G.2 m 9), .ref (G.2 m 10), .ref (G.2 m 11), .ref (G.2 m 12), .int v13, .int v14, .ref (G.2 m 15), .ref (G.2 m 16), .ref (G.2 m 17), .ref (G.2 m 18), .int v19, .int v20, .ref (G.2 m 21), .ref (G.2 m 22), .ref (G.2 m 23), .int v24, .int v25, .ref (G.2 m 26), .ref (G.2 m 27), .ref (G.2 m 28), .int v29, .long v30, .int v31, .int v32, .int v33, .int v34, .ref (G.2 m 35), .ref (G.2 m 36), .ref (G.2 m 37), .ref (G.2 m 38), .ref (G.2 m 39), .ref (G.2 m 40), .ref (G.2 m 41), .ref (G.2 m 42), .int v43, .ref (G.2 m 44), .ref (G.2 m 45), .ref (G.2 m 46), .ref (G.2 m 47), .long v48, .ref (G.2 m 49), .ref (G.2 m 50), .int v51, .long v52, .int v53]))) : ∃ (w30 : Int64), py_at L1 f1 m (.inr (12, [.int v0, .ref (G.2 m 1), .int v2, .int v3, .int v4, .int v5, .ref (G.2 m 6), .ref (G.2 m 7), .ref (G.2 m 8), .ref (G.2 m 9), .ref (G.2 m 10), .ref (G.2 m 11), .ref (G.2 m 12), .int v13, .int v14, .ref (G.2 m 15), .ref (G.2 m 16), .ref (G.2 m 17), .ref (G.2 m 18), .int v19, .int v20, .ref (G.2 m 21), .ref (G.2 m 22), .ref (G.2 m 23), .int v24, .int v25, .ref (G.2 m 26), .ref (G.2 m 27), .ref (G.2 m 28), .int v29, .long w30, .int v31, .int v32, .int v33, .int v34, .ref (G.2 m 35), .ref (G.2 m 36), .ref (G.2 m 37), .ref (G.2 m 38), .ref (G.2 m 39), .ref (G.2 m 40), .ref (G.2 m 41), .ref (G.2 m 42), .int v43, .ref (G.2 m 44), .ref (G.2 m 45), .ref (G.2 m 46), .ref (G.2 m 47), .long v48, .ref (G.2 m 49), .ref (G.2 m 50), .int v51, .long v52, .int v53])) := by
  obtain ⟨w0, w2, w3, w4, w5, w13, w14, w19, w20, w24, w25, w29, w30, w31, w32, w33, w34, w43, w48, w51, w52, w53, hr1, b2, b13, b14, b19, b20, b24, b25, b29, b31, b43, b51, b53⟩ := wg_12 hWF Tm
  have e0 : w0 = v0 := Value.int.inj (Option.some.inj (show some (Value.int w0) = some (Value.int v0) from fk_i h hr hr1 0 (by decide) (by decide)))
  subst e0
  have e2 : w2 = v2 := Value.int.inj (Option.some.inj (show some (Value.int w2) = some (Value.int v2) from fk_i h hr hr1 2 (by decide) (by decide)))
  subst e2
  have e3 : w3 = v3 := Value.int.inj (Option.some.inj (show some (Value.int w3) = some (Value.int v3) from fk_i h hr hr1 3 (by decide) (by decide)))
  subst e3
  have e4 : w4 = v4 := Value.int.inj (Option.some.inj (show some (Value.int w4) = some (Value.int v4) from fk_i h hr hr1 4 (by decide) (by decide)))
  subst e4
  have e5 : w5 = v5 := Value.int.inj (Option.some.inj (show some (Value.int w5) = some (Value.int v5) from fk_i h hr hr1 5 (by decide) (by decide)))
  subst e5
  have e13 : w13 = v13 := Value.int.inj (Option.some.inj (show some (Value.int w13) = some (Value.int v13) from fk_i h hr hr1 13 (by decide) (by decide)))
  subst e13
  have e14 : w14 = v14 := Value.int.inj (Option.some.inj (show some (Value.int w14) = some (Value.int v14) from fk_i h hr hr1 14 (by decide) (by decide)))
  subst e14
  have e19 : w19 = v19 := Value.int.inj (Option.some.inj (show some (Value.int w19) = some (Value.int v19) from fk_i h hr hr1 19 (by decide) (by decide)))
  subst e19
  have e20 : w20 = v20 := Value.int.inj (Option.some.inj (show some (Value.int w20) = some (Value.int v20) from fk_i h hr hr1 20 (by decide) (by decide)))
  subst e20
  have e24 : w24 = v24 := Value.int.inj (Option.some.inj (show some (Value.int w24) = some (Value.int v24) from fk_i h hr hr1 24 (by decide) (by decide)))
  subst e24
  have e25 : w25 = v25 := Value.int.inj (Option.some.inj (show some (Value.int w25) = some (Value.int v25) from fk_i h hr hr1 25 (by decide) (by decide)))
  subst e25
  have e29 : w29 = v29 := Value.int.inj (Option.some.inj (show some (Value.int w29) = some (Value.int v29) from fk_i h hr hr1 29 (by decide) (by decide)))
  subst e29
  have e31 : w31 = v31 := Value.int.inj (Option.some.inj (show some (Value.int w31) = some (Value.int v31) from fk_i h hr hr1 31 (by decide) (by decide)))
  subst e31
  have e32 : w32 = v32 := Value.int.inj (Option.some.inj (show some (Value.int w32) = some (Value.int v32) from fk_i h hr hr1 32 (by decide) (by decide)))
  subst e32
  have e33 : w33 = v33 := Value.int.inj (Option.some.inj (show some (Value.int w33) = some (Value.int v33) from fk_i h hr hr1 33 (by decide) (by decide)))
  subst e33
  have e34 : w34 = v34 := Value.int.inj (Option.some.inj (show some (Value.int w34) = some (Value.int v34) from fk_i h hr hr1 34 (by decide) (by decide)))
  subst e34
  have e43 : w43 = v43 := Value.int.inj (Option.some.inj (show some (Value.int w43) = some (Value.int v43) from fk_i h hr hr1 43 (by decide) (by decide)))
  subst e43
  have e48 : w48 = v48 := Value.long.inj (Option.some.inj (show some (Value.long w48) = some (Value.long v48) from fk_i h hr hr1 48 (by decide) (by decide)))
  subst e48
  have e51 : w51 = v51 := Value.int.inj (Option.some.inj (show some (Value.int w51) = some (Value.int v51) from fk_i h hr hr1 51 (by decide) (by decide)))
  subst e51
  have e52 : w52 = v52 := Value.long.inj (Option.some.inj (show some (Value.long w52) = some (Value.long v52) from fk_i h hr hr1 52 (by decide) (by decide)))
  subst e52
  have e53 : w53 = v53 := Value.int.inj (Option.some.inj (show some (Value.int w53) = some (Value.int v53) from fk_i h hr hr1 53 (by decide) (by decide)))
  subst e53
  exact ⟨w30, hr1⟩
set_option maxHeartbeats 4000000 in
set_option maxRecDepth 100000 in
theorem c_X12_springs (l : Launch) (E : py_E) (G : wf_G) (L : List Nat) (f : py_F) (sz : Nat) (u : Nat) (hG : GT G) (hWF : WF E G L f) (Tu : G.1 u = 13) : Met l yX12_springs w_X12_springs ({ frames := 7, cells := 0, slots := 0, locals := 154 }) (py_Pc E [.ref u] L f sz) (py_Qi E L f sz (fun _ L1 f1 => WF E G L1 f1 ∧ KP G [55, 59, 60, 13] false f f1 ∧ FK [30] f f1 u)) 0 0 (va_A (va_pl L f) sz) := by
  refine Met.ofW (cc := cX12_springs) (maxL := 7) (ret := (some .int)) (by decide) rfl ?_
  intro p e s m args below meth c s₁ B hml hv
  obtain ⟨rfl, rfl, hw⟩ := py_start hv
  have G0 : CallFix p m c cX12_springs 7 s _ w_X12_springs RX12 := ⟨B.exec, B.bytes, hml, findClass_of_methodNamed B.named, atoms_spec (ws := w_X12_springs) B.pre⟩
  have hr := B.returns
  have hlk := B.notSynchronized
  have kcm1 : (-1 : Int32).toInt = -1 := rfl
  have kc0 : (0 : Int32).toInt = 0 := rfl
  have kc1 : (1 : Int32).toInt = 1 := rfl
  have kc2 : (2 : Int32).toInt = 2 := rfl
  have kc3 : (3 : Int32).toInt = 3 := rfl
  have kc6 : (6 : Int32).toInt = 6 := rfl
  have hl := lv_entry ([.ref u]) (n := 7) (Nat.le_of_ble_eq_true rfl)
  rw [lg_entry_eq]
  generalize (lg_sl ([.ref u]) ++ List.replicate (7 - (lg_sl ([.ref u])).length) Slot.unset).toArray = ls at hl ⊢
  have hl : lv_has ls 7 [(0, .ref u)] := hl
  have hFK : FK [30] f f u := FK.refl
  have hKP : KP G [55, 59, 60, 13] false f f := KP.refl
  refine lv_iconst (v := 0) G0.1 G0.2.1 dX12_springs_0 (by decide) ?_
  refine lv_istore_n (lv' := [(1, .int 0), (0, .ref u)]) G0.1 G0.2.1 dX12_springs_1 rfl hl (by decide) rfl (fun ls hl => ?_)
  have lo_2 : ∀ n_2 : Nat, ∀ (v_1 : Int32) (L_j2 : List Nat) (f_j2 : py_F) (H_j2 : Heap) (locs : List Loc) (ls : Array Slot), (2147483647 - v_1.toInt).toNat = n_2 → (0 ≤ v_1.toInt ∧ v_1.toInt ≤ 2147483647) → WF E G L_j2 f_j2 → KP G [55, 59, 60, 13] false f f_j2 → FK [30] f f_j2 u → py_W E (va_A (va_pl L f) s.heap.size) s L_j2 f_j2 H_j2 locs → lv_has ls 7 [(1, .int v_1), (0, .ref u)] → W p l e (headSpec w_X12_springs ({ frames := 7, cells := 0, slots := 0, locals := 154 })).room s m ([.ref u] : List Value).toArray below meth c H_j2 locs 0 0 (MQ below (py_Qi E L f s.heap.size (fun _ L1 f1 => WF E G L1 f1 ∧ KP G [55, 59, 60, 13] false f f1 ∧ FK [30] f f1 u)) ([.ref u] : List Value).toArray s 0 0 (va_A (va_pl L f) s.heap.size)) (F0 m 2 ls []) := by
    intro n_2
    induction n_2 using Nat.strongRecOn with
    | _ n_2 ih_2 =>
      intro v_1 L_j2 f_j2 H_j2 locs ls hn_2 bv_1 hWF hKP hFK hw hl
      refine lv_iload_n G0.1 G0.2.1 dX12_springs_2 rfl (lv_at hl 0 rfl) ?_
      refine lv_aload_n G0.1 G0.2.1 dX12_springs_3 rfl (lv_at hl 1 rfl) ?_
      obtain ⟨v_2, v_3, v_4, v_5, v_6, v_7, v_8, v_9, v_10, v_11, v_12, v_13, y_14, v_15, v_16, v_17, v_18, v_19, y_20, v_21, y_22, v_23, hr_36, b_24, b_25, b_26, b_27, b_28, b_29, b_30, b_31, b_32, b_33, b_34, b_35⟩ := wg_12 hWF Tu
      have tq_37 := mi_row hr_36 25 rfl
      refine py_get (C := RX12) (T := TX12) (N := 54) (k := 25) (v := .int v_12) G0 hw in_X12_springs_X12 rfl hr_36 (by decide) (by decide +kernel) rfl dX12_springs_4 ?_
      refine lv_icmp_ge (tgt := 70) G0.1 G0.2.1 dX12_springs_7 (by decide) (fun c_38 => ?_) (fun c_38 => ?_)
      · skip
        have tc_38 := ti_le c_38
        refine lv_iconst (v := 0) G0.1 G0.2.1 dX12_springs_70 (by decide) ?_
        refine lv_istore_n (lv' := [(1, .int 0), (0, .ref u)]) G0.1 G0.2.1 dX12_springs_71 rfl hl (by decide) rfl (fun ls hl => ?_)
        refine lv_iconst (v := 1) G0.1 G0.2.1 dX12_springs_72 (by decide) ?_
        refine lv_istore_n (lv' := [(2, .int 1), (1, .int 0), (0, .ref u)]) G0.1 G0.2.1 dX12_springs_73 rfl hl (by decide) rfl (fun ls hl => ?_)
        have lo_74 : ∀ n_74 : Nat, ∀ (v_39 : Int32) (v_40 : Int32) (L_j74 : List Nat) (f_j74 : py_F) (H_j74 : Heap) (locs : List Loc) (ls : Array Slot), 2 * wn f_j74 G u (mi f u 25).toNat + v_39.toInt.toNat = n_74 → (0 ≤ v_39.toInt ∧ v_39.toInt ≤ 1) → WF E G L_j74 f_j74 → KP G [55, 59, 60, 13] false f f_j74 → FK [30] f f_j74 u → py_W E (va_A (va_pl L f) s.heap.size) s L_j74 f_j74 H_j74 locs → lv_has ls 7 [(2, .int v_39), (1, .int v_40), (0, .ref u)] → W p l e (headSpec w_X12_springs ({ frames := 7, cells := 0, slots := 0, locals := 154 })).room s m ([.ref u] : List Value).toArray below meth c H_j74 locs 0 0 (MQ below (py_Qi E L f s.heap.size (fun _ L1 f1 => WF E G L1 f1 ∧ KP G [55, 59, 60, 13] false f f1 ∧ FK [30] f f1 u)) ([.ref u] : List Value).toArray s 0 0 (va_A (va_pl L f) s.heap.size)) (F0 m 74 ls []) := by
          intro n_74
          induction n_74 using Nat.strongRecOn with
          | _ n_74 ih_74 =>
            intro v_39 v_40 L_j74 f_j74 H_j74 locs ls hn_74 bv_39 hWF hKP hFK hw hl
            have hmf := fk_mi hFK 25 (by decide) (by decide)
            refine lv_iload_n G0.1 G0.2.1 dX12_springs_74 rfl (lv_at hl 0 rfl) ?_
            refine lv_if_eq (tgt := 204) G0.1 G0.2.1 dX12_springs_75 (by decide) (fun c_41 => ?_) (fun c_41 => ?_)
            · skip
              have tc_41 := ti_eq c_41
              refine lv_iload_n G0.1 G0.2.1 dX12_springs_204 rfl (lv_at hl 1 rfl) ?_
              exact py_iret G0 hr rfl hlk hw ⟨hWF, hKP, hFK⟩ dX12_springs_205
            · skip
              have tc_41 := ti_ne c_41
              refine lv_aload_n G0.1 G0.2.1 dX12_springs_78 rfl (lv_at hl 2 rfl) ?_
              obtain ⟨v_42, v_43, v_44, v_45, v_46, v_47, v_48, v_49, v_50, v_51, v_52, v_53, y_54, v_55, v_56, v_57, v_58, v_59, y_60, v_61, y_62, v_63, hr_76, b_64, b_65, b_66, b_67, b_68, b_69, b_70, b_71, b_72, b_73, b_74, b_75⟩ := wg_12 hWF Tu
              have tq_77 := mi_row hr_76 25 rfl
              refine py_calli hw (va_runV (As := []) (rest := []) G0 (c_X12_goer l E G L_j74 f_j74 H_j74.size u hG hWF Tu) (cwV 0 G0.2.2.2.2 g_X12_springs_X12_goer_396 rfl rfl rfl (by decide +kernel) ⟨(Nat.le_of_ble_eq_true rfl), (Nat.le_of_ble_eq_true rfl)⟩) (py_preV hw (C := RX12) (T := TX12) (N := 54) rfl hr_76) rfl rfl hl.1 rfl (lv_room (Nat.le_of_ble_eq_true rfl)) dX12_springs_79 ⟨(Nat.le_of_ble_eq_true rfl), (Nat.le_of_ble_eq_true rfl)⟩) (fun r_82 L_78 f_79 H_80 locs hp_81 hw => ?_)
              obtain ⟨b_86, en_83, en_84, en_85, rfl, rfl⟩ := hp_81
              refine lv_istore_n (lv' := [(3, .int r_82), (2, .int v_39), (1, .int v_40), (0, .ref u)]) G0.1 G0.2.1 dX12_springs_82 rfl hl (by decide) rfl (fun ls hl => ?_)
              refine lv_iload_n G0.1 G0.2.1 dX12_springs_83 rfl (lv_at hl 0 rfl) ?_
              refine lv_iconst (v := (-1)) G0.1 G0.2.1 dX12_springs_84 (by decide) ?_
              refine lv_icmp_ne (tgt := 95) G0.1 G0.2.1 dX12_springs_85 (by decide) (fun c_87 => ?_) (fun c_87 => ?_)
              · skip
                have tc_87 := ti_ne c_87
                refine lv_iconst (v := (-1)) G0.1 G0.2.1 dX12_springs_95 (by decide) ?_
                refine lv_istore (lv' := [(4, .int (-1)), (3, .int r_82), (2, .int v_39), (1, .int v_40), (0, .ref u)]) G0.1 G0.2.1 dX12_springs_96 hl (by decide) rfl (fun ls hl => ?_)
                refine lv_iload_n G0.1 G0.2.1 dX12_springs_98 rfl (lv_at hl 1 rfl) ?_
                refine lv_iconst (v := (-1)) G0.1 G0.2.1 dX12_springs_99 (by decide) ?_
                refine lv_icmp_ne (tgt := 109) G0.1 G0.2.1 dX12_springs_100 (by decide) (fun c_88 => ?_) (fun c_88 => ?_)
                · skip
                  have tc_88 := ti_ne c_88
                  refine lv_iconst (v := 1) G0.1 G0.2.1 dX12_springs_109 (by decide) ?_
                  refine lv_goto (tgt := 114) G0.1 G0.2.1 dX12_springs_110 (by decide) ?_
                  refine lv_istore_n (lv' := [(2, .int 1), (4, .int (-1)), (3, .int r_82), (1, .int v_40), (0, .ref u)]) G0.1 G0.2.1 dX12_springs_114 rfl hl (by decide) rfl (fun ls hl => ?_)
                  refine lv_iload_n G0.1 G0.2.1 dX12_springs_115 rfl (lv_at hl 2 rfl) ?_
                  refine lv_iconst (v := (-1)) G0.1 G0.2.1 dX12_springs_116 (by decide) ?_
                  refine lv_icmp_eq (tgt := 186) G0.1 G0.2.1 dX12_springs_117 (by decide) (fun c_89 => ?_) (fun c_89 => ?_)
                  · skip
                    have tc_89 := ti_eq c_89
                    refine lv_iload G0.1 G0.2.1 dX12_springs_186 (lv_at hl 1 rfl) ?_
                    refine lv_iconst (v := (-1)) G0.1 G0.2.1 dX12_springs_188 (by decide) ?_
                    refine lv_icmp_eq (tgt := 201) G0.1 G0.2.1 dX12_springs_189 (by decide) (fun c_90 => ?_) (fun c_90 => ?_)
                    · skip
                      have tc_90 := ti_eq c_90
                      refine lv_goto (tgt := 74) G0.1 G0.2.1 dX12_springs_201 (by decide) ?_
                      exact ih_74 (2 * wn f_j74 G u (mi f u 25).toNat + (1 : Int32).toInt.toNat) (by omega) 1 v_40 L_j74 f_j74 _ _ ls rfl ⟨by omega, by omega⟩ hWF hKP hFK hw (lv_sub hl [0, 3, 4] rfl)
                    · skip
                      exact absurd c_90 (by decide)
                  · skip
                    have tc_89 := ti_ne c_89
                    have hSM : SM f_j74 f_j74 G u := SM.refl
                    refine lv_aload_n G0.1 G0.2.1 dX12_springs_120 rfl (lv_at hl 4 rfl) ?_
                    refine lv_iload_n G0.1 G0.2.1 dX12_springs_121 rfl (lv_at hl 2 rfl) ?_
                    refine py_calli hw (va_runV (As := [.int r_82]) (rest := []) G0 (c_X12_want l E G L_j74 f_j74 H_80.size u r_82 hG hWF Tu ⟨by omega, by omega⟩) (cwV 1 G0.2.2.2.2 g_X12_springs_X12_want_351 rfl rfl rfl (by decide +kernel) ⟨(Nat.le_of_ble_eq_true rfl), (Nat.le_of_ble_eq_true rfl)⟩) (py_preV hw (C := RX12) (T := TX12) (N := 54) rfl hr_76) rfl rfl hl.1 rfl (lv_room (Nat.le_of_ble_eq_true rfl)) dX12_springs_122 ⟨(Nat.le_of_ble_eq_true rfl), (Nat.le_of_ble_eq_true rfl)⟩) (fun r_95 L_91 f_92 H_93 locs hp_94 hw => ?_)
                    obtain ⟨b_98, en_96, en_97, rfl, rfl⟩ := hp_94
                    refine lv_istore (lv' := [(5, .int r_95), (2, .int 1), (4, .int (-1)), (3, .int r_82), (1, .int v_40), (0, .ref u)]) G0.1 G0.2.1 dX12_springs_125 hl (by decide) rfl (fun ls hl => ?_)
                    refine lv_aload_n G0.1 G0.2.1 dX12_springs_127 rfl (lv_at hl 5 rfl) ?_
                    refine lv_iload G0.1 G0.2.1 dX12_springs_128 (lv_at hl 0 rfl) ?_
                    refine lv_aload_n G0.1 G0.2.1 dX12_springs_130 rfl (lv_at hl 5 rfl) ?_
                    refine py_get (C := RX12) (T := TX12) (N := 54) (k := 33) (v := .int v_57) G0 hw in_X12_springs_X12 rfl hr_76 (by decide) (by decide +kernel) rfl dX12_springs_131 ?_
                    refine lv_iconst (v := 1) G0.1 G0.2.1 dX12_springs_134 (by decide) ?_
                    have jn_152 : ∀ (v_99 : Int32) (L_j152 : List Nat) (f_j152 : py_F) (H_j152 : Heap) (locs : List Loc) (ls : Array Slot), WF E G L_j152 f_j152 → KP G [55, 59, 60, 13] false f f_j152 → FK [30] f f_j152 u → SM f_j74 f_j152 G u → py_W E (va_A (va_pl L f) s.heap.size) s L_j152 f_j152 H_j152 locs → lv_has ls 7 [(5, .int r_95), (2, .int 1), (4, .int (-1)), (3, .int r_82), (1, .int v_40), (0, .ref u)] → W p l e (headSpec w_X12_springs ({ frames := 7, cells := 0, slots := 0, locals := 154 })).room s m ([.ref u] : List Value).toArray below meth c H_j152 locs 0 0 (MQ below (py_Qi E L f s.heap.size (fun _ L1 f1 => WF E G L1 f1 ∧ KP G [55, 59, 60, 13] false f f1 ∧ FK [30] f f1 u)) ([.ref u] : List Value).toArray s 0 0 (va_A (va_pl L f) s.heap.size)) (F0 m 152 ls [.int v_99, .int r_95, .ref u]) := by
                      intro v_99 L_j152 f_j152 H_j152 locs ls hWF hKP hFK hSM hw hl
                      obtain ⟨v_100, v_101, v_102, v_103, v_104, v_105, v_106, v_107, v_108, v_109, v_110, v_111, y_112, v_113, v_114, v_115, v_116, v_117, y_118, v_119, y_120, v_121, hr_134, b_122, b_123, b_124, b_125, b_126, b_127, b_128, b_129, b_130, b_131, b_132, b_133⟩ := wg_12 hWF Tu
                      have tq_135 := mi_row hr_134 25 rfl
                      refine py_calli hw (va_runV (As := [.int r_95, .int v_99]) (rest := []) G0 (c_X12_emptyHut l E G L_j152 f_j152 H_j152.size u r_95 v_99 hG hWF Tu ⟨by omega, by omega⟩) (cwV 2 G0.2.2.2.2 g_X12_springs_X12_emptyHut_299 rfl rfl rfl (by decide +kernel) ⟨(Nat.le_of_ble_eq_true rfl), (Nat.le_of_ble_eq_true rfl)⟩) (py_preV hw (C := RX12) (T := TX12) (N := 54) rfl hr_134) rfl rfl hl.1 rfl (lv_room (Nat.le_of_ble_eq_true rfl)) dX12_springs_152 ⟨(Nat.le_of_ble_eq_true rfl), (Nat.le_of_ble_eq_true rfl)⟩) (fun r_140 L_136 f_137 H_138 locs hp_139 hw => ?_)
                      obtain ⟨en_141, en_142, rfl, rfl⟩ := hp_139
                      have br_140 := wf_free r_140
                      refine lv_istore (lv' := [(6, .int r_140), (5, .int r_95), (2, .int 1), (4, .int (-1)), (3, .int r_82), (1, .int v_40), (0, .ref u)]) G0.1 G0.2.1 dX12_springs_155 hl (by decide) rfl (fun ls hl => ?_)
                      have hSM1 := hSM
                      refine lv_aload_n G0.1 G0.2.1 dX12_springs_157 rfl (lv_at hl 6 rfl) ?_
                      refine lv_iload_n G0.1 G0.2.1 dX12_springs_158 rfl (lv_at hl 4 rfl) ?_
                      refine lv_iconst (v := 1) G0.1 G0.2.1 dX12_springs_159 (by decide) ?_
                      refine lv_iload G0.1 G0.2.1 dX12_springs_160 (lv_at hl 1 rfl) ?_
                      refine py_callv hw (va_runV (As := [.int r_82, .int 1, .int r_95]) (rest := []) G0 (c_X12_tell l E G L_j152 f_j152 H_138.size u r_82 1 r_95 hG hWF Tu ⟨by omega, by omega⟩ ⟨by omega, by omega⟩ (show ((1 : Int32).toInt = 0 → 0 ≤ r_95.toInt ∧ r_95.toInt ≤ 20) ∧ ((1 : Int32).toInt = 1 → -1 ≤ r_95.toInt ∧ r_95.toInt ≤ 7) by omega)) (cwV 3 G0.2.2.2.2 g_X12_springs_X12_tell_305 rfl rfl rfl (by decide +kernel) ⟨(Nat.le_of_ble_eq_true rfl), (Nat.le_of_ble_eq_true rfl)⟩) (py_preV hw (C := RX12) (T := TX12) (N := 54) rfl hr_134) rfl rfl hl.1 rfl (lv_room (Nat.le_of_ble_eq_true rfl)) dX12_springs_162 ⟨(Nat.le_of_ble_eq_true rfl), (Nat.le_of_ble_eq_true rfl)⟩) (fun L_143 f_144 H_145 locs hp_146 hw => ?_)
                      obtain ⟨en_148, hWF, kp_149, fk_150⟩ := hp_146
                      have en_148 : TL f_j152 f_144 G u r_82.toInt (1 : Int) r_95.toInt := en_148
                      have hFK := hFK.trans fk_150 (by decide)
                      have hKP := hKP.trans kp_149 (by decide) (by decide)
                      have hr_134 := kp_at kp_149 hWF Tu (by decide) (by decide) (by decide) hr_134
                      have tq_151 := mi_row hr_134 25 rfl
                      have sl_152 := SL.of hG Tu kp_149 fk_150 (by decide)
                      refine lv_aload_n G0.1 G0.2.1 dX12_springs_165 rfl (lv_at hl 6 rfl) ?_
                      refine lv_iload_n G0.1 G0.2.1 dX12_springs_166 rfl (lv_at hl 4 rfl) ?_
                      refine lv_iconst (v := 2) G0.1 G0.2.1 dX12_springs_167 (by decide) ?_
                      refine lv_iload G0.1 G0.2.1 dX12_springs_168 (lv_at hl 0 rfl) ?_
                      refine py_callv hw (va_runV (As := [.int r_82, .int 2, .int r_140]) (rest := []) G0 (c_X12_tell l E G L_143 f_144 H_145.size u r_82 2 r_140 hG hWF Tu ⟨by omega, by omega⟩ ⟨by omega, by omega⟩ (show ((2 : Int32).toInt = 0 → 0 ≤ r_140.toInt ∧ r_140.toInt ≤ 20) ∧ ((2 : Int32).toInt = 1 → -1 ≤ r_140.toInt ∧ r_140.toInt ≤ 7) by omega)) (cwV 3 G0.2.2.2.2 g_X12_springs_X12_tell_305 rfl rfl rfl (by decide +kernel) ⟨(Nat.le_of_ble_eq_true rfl), (Nat.le_of_ble_eq_true rfl)⟩) (py_preV hw (C := RX12) (T := TX12) (N := 54) rfl hr_134) rfl rfl hl.1 rfl (lv_room (Nat.le_of_ble_eq_true rfl)) dX12_springs_170 ⟨(Nat.le_of_ble_eq_true rfl), (Nat.le_of_ble_eq_true rfl)⟩) (fun L_153 f_154 H_155 locs hp_156 hw => ?_)
                      obtain ⟨en_158, hWF, kp_159, fk_160⟩ := hp_156
                      have en_158 : TL f_144 f_154 G u r_82.toInt (2 : Int) r_140.toInt := en_158
                      have hFK := hFK.trans fk_160 (by decide)
                      have hKP := hKP.trans kp_159 (by decide) (by decide)
                      have hr_134 := kp_at kp_159 hWF Tu (by decide) (by decide) (by decide) hr_134
                      have tq_161 := mi_row hr_134 25 rfl
                      have sl_162 := SL.of hG Tu kp_159 fk_160 (by decide)
                      refine lv_aload_n G0.1 G0.2.1 dX12_springs_173 rfl (lv_at hl 6 rfl) ?_
                      refine lv_iload_n G0.1 G0.2.1 dX12_springs_174 rfl (lv_at hl 4 rfl) ?_
                      refine lv_iconst (v := 3) G0.1 G0.2.1 dX12_springs_175 (by decide) ?_
                      refine lv_iconst (v := 0) G0.1 G0.2.1 dX12_springs_176 (by decide) ?_
                      refine py_callv hw (va_runV (As := [.int r_82, .int 3, .int 0]) (rest := []) G0 (c_X12_tell l E G L_153 f_154 H_155.size u r_82 3 0 hG hWF Tu ⟨by omega, by omega⟩ ⟨by omega, by omega⟩ (show ((3 : Int32).toInt = 0 → 0 ≤ (0 : Int32).toInt ∧ (0 : Int32).toInt ≤ 20) ∧ ((3 : Int32).toInt = 1 → -1 ≤ (0 : Int32).toInt ∧ (0 : Int32).toInt ≤ 7) by omega)) (cwV 3 G0.2.2.2.2 g_X12_springs_X12_tell_305 rfl rfl rfl (by decide +kernel) ⟨(Nat.le_of_ble_eq_true rfl), (Nat.le_of_ble_eq_true rfl)⟩) (py_preV hw (C := RX12) (T := TX12) (N := 54) rfl hr_134) rfl rfl hl.1 rfl (lv_room (Nat.le_of_ble_eq_true rfl)) dX12_springs_177 ⟨(Nat.le_of_ble_eq_true rfl), (Nat.le_of_ble_eq_true rfl)⟩) (fun L_163 f_164 H_165 locs hp_166 hw => ?_)
                      obtain ⟨en_168, hWF, kp_169, fk_170⟩ := hp_166
                      have en_168 : TL f_154 f_164 G u r_82.toInt (3 : Int) (0 : Int) := en_168
                      have hFK := hFK.trans fk_170 (by decide)
                      have hKP := hKP.trans kp_169 (by decide) (by decide)
                      have hr_134 := kp_at kp_169 hWF Tu (by decide) (by decide) (by decide) hr_134
                      have tq_171 := mi_row hr_134 25 rfl
                      have sl_172 := SL.of hG Tu kp_169 fk_170 (by decide)
                      have hme := gone_end hSM1 ((sl_152.trans sl_162).trans sl_172) en_148 en_158 en_168 (by omega) (by omega) (en_83 (by omega)).1 en_96
                      rw [hmf] at hme
                      obtain ⟨x_173, ex_173⟩ : ∃ y : Int32, y = v_40 + 1 := ⟨_, rfl⟩
                      first | have tx_173 := ti_add ex_173 (by omega -splitDisjunctions) (by omega -splitDisjunctions) | skip
                      refine lv_iinc (v := x_173) (lv' := [(1, .int x_173), (6, .int r_140), (5, .int r_95), (2, .int 1), (4, .int (-1)), (3, .int r_82), (0, .ref u)]) G0.1 G0.2.1 dX12_springs_180 hl (k := 5) rfl (show _ + (1 : Int32) = _ from ex_173.symm) (by decide) rfl (fun ls hl => ?_)
                      refine lv_goto (tgt := 201) G0.1 G0.2.1 dX12_springs_183 (by decide) ?_
                      refine lv_goto (tgt := 74) G0.1 G0.2.1 dX12_springs_201 (by decide) ?_
                      exact ih_74 (2 * wn f_164 G u (mi f u 25).toNat + (1 : Int32).toInt.toNat) (by omega) 1 x_173 L_163 f_164 _ _ ls rfl ⟨by omega, by omega⟩ hWF hKP hFK hw (lv_sub hl [3, 0, 6] rfl)
                    refine lv_icmp_ne (tgt := 151) G0.1 G0.2.1 dX12_springs_135 (by decide) (fun c_174 => ?_) (fun c_174 => ?_)
                    · skip
                      have tc_174 := ti_ne c_174
                      refine lv_iconst (v := 0) G0.1 G0.2.1 dX12_springs_151 (by decide) ?_
                      exact jn_152 0 L_j74 f_j74 _ _ ls hWF hKP hFK hSM hw (lv_sub hl [0, 1, 2, 3, 4, 5] rfl)
                    · skip
                      have tc_174 := ti_eq c_174
                      refine lv_aload_n G0.1 G0.2.1 dX12_springs_138 rfl (lv_at hl 5 rfl) ?_
                      refine lv_aload_n G0.1 G0.2.1 dX12_springs_139 rfl (lv_at hl 5 rfl) ?_
                      refine lv_iload G0.1 G0.2.1 dX12_springs_140 (lv_at hl 0 rfl) ?_
                      refine py_calli hw (va_runV (As := [.int r_95]) (rest := [.ref u, .int r_95, .ref u]) G0 (c_X12_empties l E G L_j74 f_j74 H_93.size u r_95 hG hWF Tu ⟨by omega, by omega⟩) (cwV 1 G0.2.2.2.2 g_X12_springs_X12_empties_333 rfl rfl rfl (by decide +kernel) ⟨(Nat.le_of_ble_eq_true rfl), (Nat.le_of_ble_eq_true rfl)⟩) (py_preV hw (C := RX12) (T := TX12) (N := 54) rfl hr_76) rfl rfl hl.1 rfl (lv_room (Nat.le_of_ble_eq_true rfl)) dX12_springs_142 ⟨(Nat.le_of_ble_eq_true rfl), (Nat.le_of_ble_eq_true rfl)⟩) (fun r_179 L_175 f_176 H_177 locs hp_178 hw => ?_)
                      obtain ⟨en_180, en_181, en_182, rfl, rfl⟩ := hp_178
                      have hem : r_179.toInt ≠ 0 := fun e => en_180 e (by rw [en_96]; exact (en_83 (by omega)).2)
                      have br_179 := wf_free r_179
                      refine py_calli hw (va_runV (As := [.int r_179]) (rest := [.int r_95, .ref u]) G0 (c_X12_draw l E G L_j74 f_j74 H_177.size u r_179 hG hWF Tu (show r_179.toInt ≠ 0 by omega)) (cwV 1 G0.2.2.2.2 g_X12_springs_X12_draw_368 rfl rfl rfl (by decide +kernel) ⟨(Nat.le_of_ble_eq_true rfl), (Nat.le_of_ble_eq_true rfl)⟩) (py_preV hw (C := RX12) (T := TX12) (N := 54) rfl hr_76) rfl rfl hl.1 rfl (lv_room (Nat.le_of_ble_eq_true rfl)) dX12_springs_145 ⟨(Nat.le_of_ble_eq_true rfl), (Nat.le_of_ble_eq_true rfl)⟩) (fun r_187 L_183 f_184 H_185 locs hp_186 hw => ?_)
                      obtain ⟨hWF, kp_188, fk_189⟩ := hp_186
                      have hSM := hSM.fk hG Tu kp_188 fk_189 (by decide)
                      have hFK := hFK.trans fk_189 (by decide)
                      have hKP := hKP.trans kp_188 (by decide) (by decide)
                      obtain ⟨v_190, hr_191⟩ := fk_30 hWF Tu fk_189 hr_76
                      have tq_192 := mi_row hr_191 25 rfl
                      have br_187 := wf_free r_187
                      refine lv_goto (tgt := 152) G0.1 G0.2.1 dX12_springs_148 (by decide) ?_
                      exact jn_152 r_187 L_183 f_184 _ _ ls hWF hKP hFK hSM hw (lv_sub hl [0, 1, 2, 3, 4, 5] rfl)
                · skip
                  have tc_88 := ti_eq c_88
                  refine lv_iload G0.1 G0.2.1 dX12_springs_103 (lv_at hl 0 rfl) ?_
                  refine lv_iconst (v := (-1)) G0.1 G0.2.1 dX12_springs_105 (by decide) ?_
                  refine lv_icmp_eq (tgt := 113) G0.1 G0.2.1 dX12_springs_106 (by decide) (fun c_193 => ?_) (fun c_193 => ?_)
                  · skip
                    have tc_193 := ti_eq c_193
                    refine lv_iconst (v := 0) G0.1 G0.2.1 dX12_springs_113 (by decide) ?_
                    refine lv_istore_n (lv' := [(2, .int 0), (4, .int (-1)), (3, .int r_82), (1, .int v_40), (0, .ref u)]) G0.1 G0.2.1 dX12_springs_114 rfl hl (by decide) rfl (fun ls hl => ?_)
                    refine lv_iload_n G0.1 G0.2.1 dX12_springs_115 rfl (lv_at hl 2 rfl) ?_
                    refine lv_iconst (v := (-1)) G0.1 G0.2.1 dX12_springs_116 (by decide) ?_
                    refine lv_icmp_eq (tgt := 186) G0.1 G0.2.1 dX12_springs_117 (by decide) (fun c_194 => ?_) (fun c_194 => ?_)
                    · skip
                      have tc_194 := ti_eq c_194
                      refine lv_iload G0.1 G0.2.1 dX12_springs_186 (lv_at hl 1 rfl) ?_
                      refine lv_iconst (v := (-1)) G0.1 G0.2.1 dX12_springs_188 (by decide) ?_
                      refine lv_icmp_eq (tgt := 201) G0.1 G0.2.1 dX12_springs_189 (by decide) (fun c_195 => ?_) (fun c_195 => ?_)
                      · skip
                        have tc_195 := ti_eq c_195
                        refine lv_goto (tgt := 74) G0.1 G0.2.1 dX12_springs_201 (by decide) ?_
                        exact ih_74 (2 * wn f_j74 G u (mi f u 25).toNat + (0 : Int32).toInt.toNat) (by omega) 0 v_40 L_j74 f_j74 _ _ ls rfl ⟨by omega, by omega⟩ hWF hKP hFK hw (lv_sub hl [0, 3, 4] rfl)
                      · skip
                        exact absurd c_195 (by decide)
                    · skip
                      have tc_194 := ti_ne c_194
                      have hSM : SM f_j74 f_j74 G u := SM.refl
                      refine lv_aload_n G0.1 G0.2.1 dX12_springs_120 rfl (lv_at hl 4 rfl) ?_
                      refine lv_iload_n G0.1 G0.2.1 dX12_springs_121 rfl (lv_at hl 2 rfl) ?_
                      refine py_calli hw (va_runV (As := [.int r_82]) (rest := []) G0 (c_X12_want l E G L_j74 f_j74 H_80.size u r_82 hG hWF Tu ⟨by omega, by omega⟩) (cwV 1 G0.2.2.2.2 g_X12_springs_X12_want_351 rfl rfl rfl (by decide +kernel) ⟨(Nat.le_of_ble_eq_true rfl), (Nat.le_of_ble_eq_true rfl)⟩) (py_preV hw (C := RX12) (T := TX12) (N := 54) rfl hr_76) rfl rfl hl.1 rfl (lv_room (Nat.le_of_ble_eq_true rfl)) dX12_springs_122 ⟨(Nat.le_of_ble_eq_true rfl), (Nat.le_of_ble_eq_true rfl)⟩) (fun r_200 L_196 f_197 H_198 locs hp_199 hw => ?_)
                      obtain ⟨b_203, en_201, en_202, rfl, rfl⟩ := hp_199
                      refine lv_istore (lv' := [(5, .int r_200), (2, .int 0), (4, .int (-1)), (3, .int r_82), (1, .int v_40), (0, .ref u)]) G0.1 G0.2.1 dX12_springs_125 hl (by decide) rfl (fun ls hl => ?_)
                      refine lv_aload_n G0.1 G0.2.1 dX12_springs_127 rfl (lv_at hl 5 rfl) ?_
                      refine lv_iload G0.1 G0.2.1 dX12_springs_128 (lv_at hl 0 rfl) ?_
                      refine lv_aload_n G0.1 G0.2.1 dX12_springs_130 rfl (lv_at hl 5 rfl) ?_
                      refine py_get (C := RX12) (T := TX12) (N := 54) (k := 33) (v := .int v_57) G0 hw in_X12_springs_X12 rfl hr_76 (by decide) (by decide +kernel) rfl dX12_springs_131 ?_
                      refine lv_iconst (v := 1) G0.1 G0.2.1 dX12_springs_134 (by decide) ?_
                      have jn_152 : ∀ (v_204 : Int32) (L_j152 : List Nat) (f_j152 : py_F) (H_j152 : Heap) (locs : List Loc) (ls : Array Slot), WF E G L_j152 f_j152 → KP G [55, 59, 60, 13] false f f_j152 → FK [30] f f_j152 u → SM f_j74 f_j152 G u → py_W E (va_A (va_pl L f) s.heap.size) s L_j152 f_j152 H_j152 locs → lv_has ls 7 [(5, .int r_200), (2, .int 0), (4, .int (-1)), (3, .int r_82), (1, .int v_40), (0, .ref u)] → W p l e (headSpec w_X12_springs ({ frames := 7, cells := 0, slots := 0, locals := 154 })).room s m ([.ref u] : List Value).toArray below meth c H_j152 locs 0 0 (MQ below (py_Qi E L f s.heap.size (fun _ L1 f1 => WF E G L1 f1 ∧ KP G [55, 59, 60, 13] false f f1 ∧ FK [30] f f1 u)) ([.ref u] : List Value).toArray s 0 0 (va_A (va_pl L f) s.heap.size)) (F0 m 152 ls [.int v_204, .int r_200, .ref u]) := by
                        intro v_204 L_j152 f_j152 H_j152 locs ls hWF hKP hFK hSM hw hl
                        obtain ⟨v_205, v_206, v_207, v_208, v_209, v_210, v_211, v_212, v_213, v_214, v_215, v_216, y_217, v_218, v_219, v_220, v_221, v_222, y_223, v_224, y_225, v_226, hr_239, b_227, b_228, b_229, b_230, b_231, b_232, b_233, b_234, b_235, b_236, b_237, b_238⟩ := wg_12 hWF Tu
                        have tq_240 := mi_row hr_239 25 rfl
                        refine py_calli hw (va_runV (As := [.int r_200, .int v_204]) (rest := []) G0 (c_X12_emptyHut l E G L_j152 f_j152 H_j152.size u r_200 v_204 hG hWF Tu ⟨by omega, by omega⟩) (cwV 2 G0.2.2.2.2 g_X12_springs_X12_emptyHut_299 rfl rfl rfl (by decide +kernel) ⟨(Nat.le_of_ble_eq_true rfl), (Nat.le_of_ble_eq_true rfl)⟩) (py_preV hw (C := RX12) (T := TX12) (N := 54) rfl hr_239) rfl rfl hl.1 rfl (lv_room (Nat.le_of_ble_eq_true rfl)) dX12_springs_152 ⟨(Nat.le_of_ble_eq_true rfl), (Nat.le_of_ble_eq_true rfl)⟩) (fun r_245 L_241 f_242 H_243 locs hp_244 hw => ?_)
                        obtain ⟨en_246, en_247, rfl, rfl⟩ := hp_244
                        have br_245 := wf_free r_245
                        refine lv_istore (lv' := [(6, .int r_245), (5, .int r_200), (2, .int 0), (4, .int (-1)), (3, .int r_82), (1, .int v_40), (0, .ref u)]) G0.1 G0.2.1 dX12_springs_155 hl (by decide) rfl (fun ls hl => ?_)
                        have hSM1 := hSM
                        refine lv_aload_n G0.1 G0.2.1 dX12_springs_157 rfl (lv_at hl 6 rfl) ?_
                        refine lv_iload_n G0.1 G0.2.1 dX12_springs_158 rfl (lv_at hl 4 rfl) ?_
                        refine lv_iconst (v := 1) G0.1 G0.2.1 dX12_springs_159 (by decide) ?_
                        refine lv_iload G0.1 G0.2.1 dX12_springs_160 (lv_at hl 1 rfl) ?_
                        refine py_callv hw (va_runV (As := [.int r_82, .int 1, .int r_200]) (rest := []) G0 (c_X12_tell l E G L_j152 f_j152 H_243.size u r_82 1 r_200 hG hWF Tu ⟨by omega, by omega⟩ ⟨by omega, by omega⟩ (show ((1 : Int32).toInt = 0 → 0 ≤ r_200.toInt ∧ r_200.toInt ≤ 20) ∧ ((1 : Int32).toInt = 1 → -1 ≤ r_200.toInt ∧ r_200.toInt ≤ 7) by omega)) (cwV 3 G0.2.2.2.2 g_X12_springs_X12_tell_305 rfl rfl rfl (by decide +kernel) ⟨(Nat.le_of_ble_eq_true rfl), (Nat.le_of_ble_eq_true rfl)⟩) (py_preV hw (C := RX12) (T := TX12) (N := 54) rfl hr_239) rfl rfl hl.1 rfl (lv_room (Nat.le_of_ble_eq_true rfl)) dX12_springs_162 ⟨(Nat.le_of_ble_eq_true rfl), (Nat.le_of_ble_eq_true rfl)⟩) (fun L_248 f_249 H_250 locs hp_251 hw => ?_)
                        obtain ⟨en_253, hWF, kp_254, fk_255⟩ := hp_251
                        have en_253 : TL f_j152 f_249 G u r_82.toInt (1 : Int) r_200.toInt := en_253
                        have hFK := hFK.trans fk_255 (by decide)
                        have hKP := hKP.trans kp_254 (by decide) (by decide)
                        have hr_239 := kp_at kp_254 hWF Tu (by decide) (by decide) (by decide) hr_239
                        have tq_256 := mi_row hr_239 25 rfl
                        have sl_257 := SL.of hG Tu kp_254 fk_255 (by decide)
                        refine lv_aload_n G0.1 G0.2.1 dX12_springs_165 rfl (lv_at hl 6 rfl) ?_
                        refine lv_iload_n G0.1 G0.2.1 dX12_springs_166 rfl (lv_at hl 4 rfl) ?_
                        refine lv_iconst (v := 2) G0.1 G0.2.1 dX12_springs_167 (by decide) ?_
                        refine lv_iload G0.1 G0.2.1 dX12_springs_168 (lv_at hl 0 rfl) ?_
                        refine py_callv hw (va_runV (As := [.int r_82, .int 2, .int r_245]) (rest := []) G0 (c_X12_tell l E G L_248 f_249 H_250.size u r_82 2 r_245 hG hWF Tu ⟨by omega, by omega⟩ ⟨by omega, by omega⟩ (show ((2 : Int32).toInt = 0 → 0 ≤ r_245.toInt ∧ r_245.toInt ≤ 20) ∧ ((2 : Int32).toInt = 1 → -1 ≤ r_245.toInt ∧ r_245.toInt ≤ 7) by omega)) (cwV 3 G0.2.2.2.2 g_X12_springs_X12_tell_305 rfl rfl rfl (by decide +kernel) ⟨(Nat.le_of_ble_eq_true rfl), (Nat.le_of_ble_eq_true rfl)⟩) (py_preV hw (C := RX12) (T := TX12) (N := 54) rfl hr_239) rfl rfl hl.1 rfl (lv_room (Nat.le_of_ble_eq_true rfl)) dX12_springs_170 ⟨(Nat.le_of_ble_eq_true rfl), (Nat.le_of_ble_eq_true rfl)⟩) (fun L_258 f_259 H_260 locs hp_261 hw => ?_)
                        obtain ⟨en_263, hWF, kp_264, fk_265⟩ := hp_261
                        have en_263 : TL f_249 f_259 G u r_82.toInt (2 : Int) r_245.toInt := en_263
                        have hFK := hFK.trans fk_265 (by decide)
                        have hKP := hKP.trans kp_264 (by decide) (by decide)
                        have hr_239 := kp_at kp_264 hWF Tu (by decide) (by decide) (by decide) hr_239
                        have tq_266 := mi_row hr_239 25 rfl
                        have sl_267 := SL.of hG Tu kp_264 fk_265 (by decide)
                        refine lv_aload_n G0.1 G0.2.1 dX12_springs_173 rfl (lv_at hl 6 rfl) ?_
                        refine lv_iload_n G0.1 G0.2.1 dX12_springs_174 rfl (lv_at hl 4 rfl) ?_
                        refine lv_iconst (v := 3) G0.1 G0.2.1 dX12_springs_175 (by decide) ?_
                        refine lv_iconst (v := 0) G0.1 G0.2.1 dX12_springs_176 (by decide) ?_
                        refine py_callv hw (va_runV (As := [.int r_82, .int 3, .int 0]) (rest := []) G0 (c_X12_tell l E G L_258 f_259 H_260.size u r_82 3 0 hG hWF Tu ⟨by omega, by omega⟩ ⟨by omega, by omega⟩ (show ((3 : Int32).toInt = 0 → 0 ≤ (0 : Int32).toInt ∧ (0 : Int32).toInt ≤ 20) ∧ ((3 : Int32).toInt = 1 → -1 ≤ (0 : Int32).toInt ∧ (0 : Int32).toInt ≤ 7) by omega)) (cwV 3 G0.2.2.2.2 g_X12_springs_X12_tell_305 rfl rfl rfl (by decide +kernel) ⟨(Nat.le_of_ble_eq_true rfl), (Nat.le_of_ble_eq_true rfl)⟩) (py_preV hw (C := RX12) (T := TX12) (N := 54) rfl hr_239) rfl rfl hl.1 rfl (lv_room (Nat.le_of_ble_eq_true rfl)) dX12_springs_177 ⟨(Nat.le_of_ble_eq_true rfl), (Nat.le_of_ble_eq_true rfl)⟩) (fun L_268 f_269 H_270 locs hp_271 hw => ?_)
                        obtain ⟨en_273, hWF, kp_274, fk_275⟩ := hp_271
                        have en_273 : TL f_259 f_269 G u r_82.toInt (3 : Int) (0 : Int) := en_273
                        have hFK := hFK.trans fk_275 (by decide)
                        have hKP := hKP.trans kp_274 (by decide) (by decide)
                        have hr_239 := kp_at kp_274 hWF Tu (by decide) (by decide) (by decide) hr_239
                        have tq_276 := mi_row hr_239 25 rfl
                        have sl_277 := SL.of hG Tu kp_274 fk_275 (by decide)
                        have hme := gone_end hSM1 ((sl_257.trans sl_267).trans sl_277) en_253 en_263 en_273 (by omega) (by omega) (en_83 (by omega)).1 en_201
                        rw [hmf] at hme
                        obtain ⟨x_278, ex_278⟩ : ∃ y : Int32, y = v_40 + 1 := ⟨_, rfl⟩
                        first | have tx_278 := ti_add ex_278 (by omega -splitDisjunctions) (by omega -splitDisjunctions) | skip
                        refine lv_iinc (v := x_278) (lv' := [(1, .int x_278), (6, .int r_245), (5, .int r_200), (2, .int 0), (4, .int (-1)), (3, .int r_82), (0, .ref u)]) G0.1 G0.2.1 dX12_springs_180 hl (k := 5) rfl (show _ + (1 : Int32) = _ from ex_278.symm) (by decide) rfl (fun ls hl => ?_)
                        refine lv_goto (tgt := 201) G0.1 G0.2.1 dX12_springs_183 (by decide) ?_
                        refine lv_goto (tgt := 74) G0.1 G0.2.1 dX12_springs_201 (by decide) ?_
                        exact ih_74 (2 * wn f_269 G u (mi f u 25).toNat + (0 : Int32).toInt.toNat) (by omega) 0 x_278 L_268 f_269 _ _ ls rfl ⟨by omega, by omega⟩ hWF hKP hFK hw (lv_sub hl [3, 0, 6] rfl)
                      refine lv_icmp_ne (tgt := 151) G0.1 G0.2.1 dX12_springs_135 (by decide) (fun c_279 => ?_) (fun c_279 => ?_)
                      · skip
                        have tc_279 := ti_ne c_279
                        refine lv_iconst (v := 0) G0.1 G0.2.1 dX12_springs_151 (by decide) ?_
                        exact jn_152 0 L_j74 f_j74 _ _ ls hWF hKP hFK hSM hw (lv_sub hl [0, 1, 2, 3, 4, 5] rfl)
                      · skip
                        have tc_279 := ti_eq c_279
                        refine lv_aload_n G0.1 G0.2.1 dX12_springs_138 rfl (lv_at hl 5 rfl) ?_
                        refine lv_aload_n G0.1 G0.2.1 dX12_springs_139 rfl (lv_at hl 5 rfl) ?_
                        refine lv_iload G0.1 G0.2.1 dX12_springs_140 (lv_at hl 0 rfl) ?_
                        refine py_calli hw (va_runV (As := [.int r_200]) (rest := [.ref u, .int r_200, .ref u]) G0 (c_X12_empties l E G L_j74 f_j74 H_198.size u r_200 hG hWF Tu ⟨by omega, by omega⟩) (cwV 1 G0.2.2.2.2 g_X12_springs_X12_empties_333 rfl rfl rfl (by decide +kernel) ⟨(Nat.le_of_ble_eq_true rfl), (Nat.le_of_ble_eq_true rfl)⟩) (py_preV hw (C := RX12) (T := TX12) (N := 54) rfl hr_76) rfl rfl hl.1 rfl (lv_room (Nat.le_of_ble_eq_true rfl)) dX12_springs_142 ⟨(Nat.le_of_ble_eq_true rfl), (Nat.le_of_ble_eq_true rfl)⟩) (fun r_284 L_280 f_281 H_282 locs hp_283 hw => ?_)
                        obtain ⟨en_285, en_286, en_287, rfl, rfl⟩ := hp_283
                        have hem : r_284.toInt ≠ 0 := fun e => en_285 e (by rw [en_201]; exact (en_83 (by omega)).2)
                        have br_284 := wf_free r_284
                        refine py_calli hw (va_runV (As := [.int r_284]) (rest := [.int r_200, .ref u]) G0 (c_X12_draw l E G L_j74 f_j74 H_282.size u r_284 hG hWF Tu (show r_284.toInt ≠ 0 by omega)) (cwV 1 G0.2.2.2.2 g_X12_springs_X12_draw_368 rfl rfl rfl (by decide +kernel) ⟨(Nat.le_of_ble_eq_true rfl), (Nat.le_of_ble_eq_true rfl)⟩) (py_preV hw (C := RX12) (T := TX12) (N := 54) rfl hr_76) rfl rfl hl.1 rfl (lv_room (Nat.le_of_ble_eq_true rfl)) dX12_springs_145 ⟨(Nat.le_of_ble_eq_true rfl), (Nat.le_of_ble_eq_true rfl)⟩) (fun r_292 L_288 f_289 H_290 locs hp_291 hw => ?_)
                        obtain ⟨hWF, kp_293, fk_294⟩ := hp_291
                        have hSM := hSM.fk hG Tu kp_293 fk_294 (by decide)
                        have hFK := hFK.trans fk_294 (by decide)
                        have hKP := hKP.trans kp_293 (by decide) (by decide)
                        obtain ⟨v_295, hr_296⟩ := fk_30 hWF Tu fk_294 hr_76
                        have tq_297 := mi_row hr_296 25 rfl
                        have br_292 := wf_free r_292
                        refine lv_goto (tgt := 152) G0.1 G0.2.1 dX12_springs_148 (by decide) ?_
                        exact jn_152 r_292 L_288 f_289 _ _ ls hWF hKP hFK hSM hw (lv_sub hl [0, 1, 2, 3, 4, 5] rfl)
                  · skip
                    exact absurd c_193 (by decide)
              · skip
                have tc_87 := ti_eq c_87
                refine lv_aload_n G0.1 G0.2.1 dX12_springs_88 rfl (lv_at hl 3 rfl) ?_
                refine py_calli hw (va_runV (As := []) (rest := []) G0 (c_X12_ring l E G L_j74 f_j74 H_80.size u hG hWF Tu) (cwV 0 G0.2.2.2.2 g_X12_springs_X12_ring_399 rfl rfl rfl (by decide +kernel) ⟨(Nat.le_of_ble_eq_true rfl), (Nat.le_of_ble_eq_true rfl)⟩) (py_preV hw (C := RX12) (T := TX12) (N := 54) rfl hr_76) rfl rfl hl.1 rfl (lv_room (Nat.le_of_ble_eq_true rfl)) dX12_springs_89 ⟨(Nat.le_of_ble_eq_true rfl), (Nat.le_of_ble_eq_true rfl)⟩) (fun r_302 L_298 f_299 H_300 locs hp_301 hw => ?_)
                obtain ⟨b_305, en_303, en_304, rfl, rfl⟩ := hp_301
                refine lv_goto (tgt := 96) G0.1 G0.2.1 dX12_springs_92 (by decide) ?_
                refine lv_istore (lv' := [(4, .int r_302), (3, .int r_82), (2, .int v_39), (1, .int v_40), (0, .ref u)]) G0.1 G0.2.1 dX12_springs_96 hl (by decide) rfl (fun ls hl => ?_)
                refine lv_iload_n G0.1 G0.2.1 dX12_springs_98 rfl (lv_at hl 1 rfl) ?_
                refine lv_iconst (v := (-1)) G0.1 G0.2.1 dX12_springs_99 (by decide) ?_
                refine lv_icmp_ne (tgt := 109) G0.1 G0.2.1 dX12_springs_100 (by decide) (fun c_306 => ?_) (fun c_306 => ?_)
                · skip
                  have tc_306 := ti_ne c_306
                  refine lv_iconst (v := 1) G0.1 G0.2.1 dX12_springs_109 (by decide) ?_
                  refine lv_goto (tgt := 114) G0.1 G0.2.1 dX12_springs_110 (by decide) ?_
                  refine lv_istore_n (lv' := [(2, .int 1), (4, .int r_302), (3, .int r_82), (1, .int v_40), (0, .ref u)]) G0.1 G0.2.1 dX12_springs_114 rfl hl (by decide) rfl (fun ls hl => ?_)
                  refine lv_iload_n G0.1 G0.2.1 dX12_springs_115 rfl (lv_at hl 2 rfl) ?_
                  refine lv_iconst (v := (-1)) G0.1 G0.2.1 dX12_springs_116 (by decide) ?_
                  refine lv_icmp_eq (tgt := 186) G0.1 G0.2.1 dX12_springs_117 (by decide) (fun c_307 => ?_) (fun c_307 => ?_)
                  · skip
                    have tc_307 := ti_eq c_307
                    refine lv_iload G0.1 G0.2.1 dX12_springs_186 (lv_at hl 1 rfl) ?_
                    refine lv_iconst (v := (-1)) G0.1 G0.2.1 dX12_springs_188 (by decide) ?_
                    refine lv_icmp_eq (tgt := 201) G0.1 G0.2.1 dX12_springs_189 (by decide) (fun c_308 => ?_) (fun c_308 => ?_)
                    · skip
                      have tc_308 := ti_eq c_308
                      refine lv_goto (tgt := 74) G0.1 G0.2.1 dX12_springs_201 (by decide) ?_
                      exact ih_74 (2 * wn f_j74 G u (mi f u 25).toNat + (1 : Int32).toInt.toNat) (by omega) 1 v_40 L_j74 f_j74 _ _ ls rfl ⟨by omega, by omega⟩ hWF hKP hFK hw (lv_sub hl [0, 3, 4] rfl)
                    · skip
                      have tc_308 := ti_ne c_308
                      refine lv_iload_n G0.1 G0.2.1 dX12_springs_192 rfl (lv_at hl 3 rfl) ?_
                      refine lv_aload_n G0.1 G0.2.1 dX12_springs_193 rfl (lv_at hl 4 rfl) ?_
                      refine lv_iload G0.1 G0.2.1 dX12_springs_194 (lv_at hl 1 rfl) ?_
                      refine py_calli hw (va_runV (As := [.int r_302]) (rest := [.int v_40]) G0 (c_X12_turn l E G L_j74 f_j74 H_300.size u r_302 hG hWF Tu ⟨by omega, by omega⟩ (show r_302.toInt < mi f_j74 u 25 by omega) (en_303 (by omega)).2 (en_303 (by omega)).1) (cwV 1 G0.2.2.2.2 g_X12_springs_X12_turn_402 rfl rfl rfl (by decide +kernel) ⟨(Nat.le_of_ble_eq_true rfl), (Nat.le_of_ble_eq_true rfl)⟩) (py_preV hw (C := RX12) (T := TX12) (N := 54) rfl hr_76) rfl rfl hl.1 rfl (lv_room (Nat.le_of_ble_eq_true rfl)) dX12_springs_196 ⟨(Nat.le_of_ble_eq_true rfl), (Nat.le_of_ble_eq_true rfl)⟩) (fun r_313 L_309 f_310 H_311 locs hp_312 hw => ?_)
                      obtain ⟨en_314, hWF, kp_315, fk_316⟩ := hp_312
                      have hFK := hFK.trans fk_316 (by decide)
                      have hKP := hKP.trans kp_315 (by decide) (by decide)
                      have hr_76 := kp_at kp_315 hWF Tu (by decide) (by decide) (by decide) hr_76
                      have tq_317 := mi_row hr_76 25 rfl
                      have br_313 := wf_free r_313
                      have hme := en_314
                      rw [hmf] at hme
                      refine lv_iadd G0.1 G0.2.1 dX12_springs_199 ?_
                      refine lv_topi (fun x_318 ex_318 => ?_)
                      first | have tx_318 := ti_add ex_318 (by omega -splitDisjunctions) (by omega -splitDisjunctions) | skip
                      refine lv_istore_n (lv' := [(1, .int x_318), (2, .int 1), (4, .int r_302), (3, .int r_82), (0, .ref u)]) G0.1 G0.2.1 dX12_springs_200 rfl hl (by decide) rfl (fun ls hl => ?_)
                      refine lv_goto (tgt := 74) G0.1 G0.2.1 dX12_springs_201 (by decide) ?_
                      exact ih_74 (2 * wn f_310 G u (mi f u 25).toNat + (1 : Int32).toInt.toNat) (by omega) 1 x_318 L_309 f_310 _ _ ls rfl ⟨by omega, by omega⟩ hWF hKP hFK hw (lv_sub hl [1, 0, 4] rfl)
                  · skip
                    have tc_307 := ti_ne c_307
                    have hSM : SM f_j74 f_j74 G u := SM.refl
                    refine lv_aload_n G0.1 G0.2.1 dX12_springs_120 rfl (lv_at hl 4 rfl) ?_
                    refine lv_iload_n G0.1 G0.2.1 dX12_springs_121 rfl (lv_at hl 2 rfl) ?_
                    refine py_calli hw (va_runV (As := [.int r_82]) (rest := []) G0 (c_X12_want l E G L_j74 f_j74 H_300.size u r_82 hG hWF Tu ⟨by omega, by omega⟩) (cwV 1 G0.2.2.2.2 g_X12_springs_X12_want_351 rfl rfl rfl (by decide +kernel) ⟨(Nat.le_of_ble_eq_true rfl), (Nat.le_of_ble_eq_true rfl)⟩) (py_preV hw (C := RX12) (T := TX12) (N := 54) rfl hr_76) rfl rfl hl.1 rfl (lv_room (Nat.le_of_ble_eq_true rfl)) dX12_springs_122 ⟨(Nat.le_of_ble_eq_true rfl), (Nat.le_of_ble_eq_true rfl)⟩) (fun r_323 L_319 f_320 H_321 locs hp_322 hw => ?_)
                    obtain ⟨b_326, en_324, en_325, rfl, rfl⟩ := hp_322
                    refine lv_istore (lv' := [(5, .int r_323), (2, .int 1), (4, .int r_302), (3, .int r_82), (1, .int v_40), (0, .ref u)]) G0.1 G0.2.1 dX12_springs_125 hl (by decide) rfl (fun ls hl => ?_)
                    refine lv_aload_n G0.1 G0.2.1 dX12_springs_127 rfl (lv_at hl 5 rfl) ?_
                    refine lv_iload G0.1 G0.2.1 dX12_springs_128 (lv_at hl 0 rfl) ?_
                    refine lv_aload_n G0.1 G0.2.1 dX12_springs_130 rfl (lv_at hl 5 rfl) ?_
                    refine py_get (C := RX12) (T := TX12) (N := 54) (k := 33) (v := .int v_57) G0 hw in_X12_springs_X12 rfl hr_76 (by decide) (by decide +kernel) rfl dX12_springs_131 ?_
                    refine lv_iconst (v := 1) G0.1 G0.2.1 dX12_springs_134 (by decide) ?_
                    have jn_152 : ∀ (v_327 : Int32) (L_j152 : List Nat) (f_j152 : py_F) (H_j152 : Heap) (locs : List Loc) (ls : Array Slot), WF E G L_j152 f_j152 → KP G [55, 59, 60, 13] false f f_j152 → FK [30] f f_j152 u → SM f_j74 f_j152 G u → py_W E (va_A (va_pl L f) s.heap.size) s L_j152 f_j152 H_j152 locs → lv_has ls 7 [(5, .int r_323), (2, .int 1), (4, .int r_302), (3, .int r_82), (1, .int v_40), (0, .ref u)] → W p l e (headSpec w_X12_springs ({ frames := 7, cells := 0, slots := 0, locals := 154 })).room s m ([.ref u] : List Value).toArray below meth c H_j152 locs 0 0 (MQ below (py_Qi E L f s.heap.size (fun _ L1 f1 => WF E G L1 f1 ∧ KP G [55, 59, 60, 13] false f f1 ∧ FK [30] f f1 u)) ([.ref u] : List Value).toArray s 0 0 (va_A (va_pl L f) s.heap.size)) (F0 m 152 ls [.int v_327, .int r_323, .ref u]) := by
                      intro v_327 L_j152 f_j152 H_j152 locs ls hWF hKP hFK hSM hw hl
                      obtain ⟨v_328, v_329, v_330, v_331, v_332, v_333, v_334, v_335, v_336, v_337, v_338, v_339, y_340, v_341, v_342, v_343, v_344, v_345, y_346, v_347, y_348, v_349, hr_362, b_350, b_351, b_352, b_353, b_354, b_355, b_356, b_357, b_358, b_359, b_360, b_361⟩ := wg_12 hWF Tu
                      have tq_363 := mi_row hr_362 25 rfl
                      refine py_calli hw (va_runV (As := [.int r_323, .int v_327]) (rest := []) G0 (c_X12_emptyHut l E G L_j152 f_j152 H_j152.size u r_323 v_327 hG hWF Tu ⟨by omega, by omega⟩) (cwV 2 G0.2.2.2.2 g_X12_springs_X12_emptyHut_299 rfl rfl rfl (by decide +kernel) ⟨(Nat.le_of_ble_eq_true rfl), (Nat.le_of_ble_eq_true rfl)⟩) (py_preV hw (C := RX12) (T := TX12) (N := 54) rfl hr_362) rfl rfl hl.1 rfl (lv_room (Nat.le_of_ble_eq_true rfl)) dX12_springs_152 ⟨(Nat.le_of_ble_eq_true rfl), (Nat.le_of_ble_eq_true rfl)⟩) (fun r_368 L_364 f_365 H_366 locs hp_367 hw => ?_)
                      obtain ⟨en_369, en_370, rfl, rfl⟩ := hp_367
                      have br_368 := wf_free r_368
                      refine lv_istore (lv' := [(6, .int r_368), (5, .int r_323), (2, .int 1), (4, .int r_302), (3, .int r_82), (1, .int v_40), (0, .ref u)]) G0.1 G0.2.1 dX12_springs_155 hl (by decide) rfl (fun ls hl => ?_)
                      have hSM1 := hSM
                      refine lv_aload_n G0.1 G0.2.1 dX12_springs_157 rfl (lv_at hl 6 rfl) ?_
                      refine lv_iload_n G0.1 G0.2.1 dX12_springs_158 rfl (lv_at hl 4 rfl) ?_
                      refine lv_iconst (v := 1) G0.1 G0.2.1 dX12_springs_159 (by decide) ?_
                      refine lv_iload G0.1 G0.2.1 dX12_springs_160 (lv_at hl 1 rfl) ?_
                      refine py_callv hw (va_runV (As := [.int r_82, .int 1, .int r_323]) (rest := []) G0 (c_X12_tell l E G L_j152 f_j152 H_366.size u r_82 1 r_323 hG hWF Tu ⟨by omega, by omega⟩ ⟨by omega, by omega⟩ (show ((1 : Int32).toInt = 0 → 0 ≤ r_323.toInt ∧ r_323.toInt ≤ 20) ∧ ((1 : Int32).toInt = 1 → -1 ≤ r_323.toInt ∧ r_323.toInt ≤ 7) by omega)) (cwV 3 G0.2.2.2.2 g_X12_springs_X12_tell_305 rfl rfl rfl (by decide +kernel) ⟨(Nat.le_of_ble_eq_true rfl), (Nat.le_of_ble_eq_true rfl)⟩) (py_preV hw (C := RX12) (T := TX12) (N := 54) rfl hr_362) rfl rfl hl.1 rfl (lv_room (Nat.le_of_ble_eq_true rfl)) dX12_springs_162 ⟨(Nat.le_of_ble_eq_true rfl), (Nat.le_of_ble_eq_true rfl)⟩) (fun L_371 f_372 H_373 locs hp_374 hw => ?_)
                      obtain ⟨en_376, hWF, kp_377, fk_378⟩ := hp_374
                      have en_376 : TL f_j152 f_372 G u r_82.toInt (1 : Int) r_323.toInt := en_376
                      have hFK := hFK.trans fk_378 (by decide)
                      have hKP := hKP.trans kp_377 (by decide) (by decide)
                      have hr_362 := kp_at kp_377 hWF Tu (by decide) (by decide) (by decide) hr_362
                      have tq_379 := mi_row hr_362 25 rfl
                      have sl_380 := SL.of hG Tu kp_377 fk_378 (by decide)
                      refine lv_aload_n G0.1 G0.2.1 dX12_springs_165 rfl (lv_at hl 6 rfl) ?_
                      refine lv_iload_n G0.1 G0.2.1 dX12_springs_166 rfl (lv_at hl 4 rfl) ?_
                      refine lv_iconst (v := 2) G0.1 G0.2.1 dX12_springs_167 (by decide) ?_
                      refine lv_iload G0.1 G0.2.1 dX12_springs_168 (lv_at hl 0 rfl) ?_
                      refine py_callv hw (va_runV (As := [.int r_82, .int 2, .int r_368]) (rest := []) G0 (c_X12_tell l E G L_371 f_372 H_373.size u r_82 2 r_368 hG hWF Tu ⟨by omega, by omega⟩ ⟨by omega, by omega⟩ (show ((2 : Int32).toInt = 0 → 0 ≤ r_368.toInt ∧ r_368.toInt ≤ 20) ∧ ((2 : Int32).toInt = 1 → -1 ≤ r_368.toInt ∧ r_368.toInt ≤ 7) by omega)) (cwV 3 G0.2.2.2.2 g_X12_springs_X12_tell_305 rfl rfl rfl (by decide +kernel) ⟨(Nat.le_of_ble_eq_true rfl), (Nat.le_of_ble_eq_true rfl)⟩) (py_preV hw (C := RX12) (T := TX12) (N := 54) rfl hr_362) rfl rfl hl.1 rfl (lv_room (Nat.le_of_ble_eq_true rfl)) dX12_springs_170 ⟨(Nat.le_of_ble_eq_true rfl), (Nat.le_of_ble_eq_true rfl)⟩) (fun L_381 f_382 H_383 locs hp_384 hw => ?_)
                      obtain ⟨en_386, hWF, kp_387, fk_388⟩ := hp_384
                      have en_386 : TL f_372 f_382 G u r_82.toInt (2 : Int) r_368.toInt := en_386
                      have hFK := hFK.trans fk_388 (by decide)
                      have hKP := hKP.trans kp_387 (by decide) (by decide)
                      have hr_362 := kp_at kp_387 hWF Tu (by decide) (by decide) (by decide) hr_362
                      have tq_389 := mi_row hr_362 25 rfl
                      have sl_390 := SL.of hG Tu kp_387 fk_388 (by decide)
                      refine lv_aload_n G0.1 G0.2.1 dX12_springs_173 rfl (lv_at hl 6 rfl) ?_
                      refine lv_iload_n G0.1 G0.2.1 dX12_springs_174 rfl (lv_at hl 4 rfl) ?_
                      refine lv_iconst (v := 3) G0.1 G0.2.1 dX12_springs_175 (by decide) ?_
                      refine lv_iconst (v := 0) G0.1 G0.2.1 dX12_springs_176 (by decide) ?_
                      refine py_callv hw (va_runV (As := [.int r_82, .int 3, .int 0]) (rest := []) G0 (c_X12_tell l E G L_381 f_382 H_383.size u r_82 3 0 hG hWF Tu ⟨by omega, by omega⟩ ⟨by omega, by omega⟩ (show ((3 : Int32).toInt = 0 → 0 ≤ (0 : Int32).toInt ∧ (0 : Int32).toInt ≤ 20) ∧ ((3 : Int32).toInt = 1 → -1 ≤ (0 : Int32).toInt ∧ (0 : Int32).toInt ≤ 7) by omega)) (cwV 3 G0.2.2.2.2 g_X12_springs_X12_tell_305 rfl rfl rfl (by decide +kernel) ⟨(Nat.le_of_ble_eq_true rfl), (Nat.le_of_ble_eq_true rfl)⟩) (py_preV hw (C := RX12) (T := TX12) (N := 54) rfl hr_362) rfl rfl hl.1 rfl (lv_room (Nat.le_of_ble_eq_true rfl)) dX12_springs_177 ⟨(Nat.le_of_ble_eq_true rfl), (Nat.le_of_ble_eq_true rfl)⟩) (fun L_391 f_392 H_393 locs hp_394 hw => ?_)
                      obtain ⟨en_396, hWF, kp_397, fk_398⟩ := hp_394
                      have en_396 : TL f_382 f_392 G u r_82.toInt (3 : Int) (0 : Int) := en_396
                      have hFK := hFK.trans fk_398 (by decide)
                      have hKP := hKP.trans kp_397 (by decide) (by decide)
                      have hr_362 := kp_at kp_397 hWF Tu (by decide) (by decide) (by decide) hr_362
                      have tq_399 := mi_row hr_362 25 rfl
                      have sl_400 := SL.of hG Tu kp_397 fk_398 (by decide)
                      have hme := gone_end hSM1 ((sl_380.trans sl_390).trans sl_400) en_376 en_386 en_396 (by omega) (by omega) (en_83 (by omega)).1 en_324
                      rw [hmf] at hme
                      obtain ⟨x_401, ex_401⟩ : ∃ y : Int32, y = v_40 + 1 := ⟨_, rfl⟩
                      first | have tx_401 := ti_add ex_401 (by omega -splitDisjunctions) (by omega -splitDisjunctions) | skip
                      refine lv_iinc (v := x_401) (lv' := [(1, .int x_401), (6, .int r_368), (5, .int r_323), (2, .int 1), (4, .int r_302), (3, .int r_82), (0, .ref u)]) G0.1 G0.2.1 dX12_springs_180 hl (k := 5) rfl (show _ + (1 : Int32) = _ from ex_401.symm) (by decide) rfl (fun ls hl => ?_)
                      refine lv_goto (tgt := 201) G0.1 G0.2.1 dX12_springs_183 (by decide) ?_
                      refine lv_goto (tgt := 74) G0.1 G0.2.1 dX12_springs_201 (by decide) ?_
                      exact ih_74 (2 * wn f_392 G u (mi f u 25).toNat + (1 : Int32).toInt.toNat) (by omega) 1 x_401 L_391 f_392 _ _ ls rfl ⟨by omega, by omega⟩ hWF hKP hFK hw (lv_sub hl [3, 0, 6] rfl)
                    refine lv_icmp_ne (tgt := 151) G0.1 G0.2.1 dX12_springs_135 (by decide) (fun c_402 => ?_) (fun c_402 => ?_)
                    · skip
                      have tc_402 := ti_ne c_402
                      refine lv_iconst (v := 0) G0.1 G0.2.1 dX12_springs_151 (by decide) ?_
                      exact jn_152 0 L_j74 f_j74 _ _ ls hWF hKP hFK hSM hw (lv_sub hl [0, 1, 2, 3, 4, 5] rfl)
                    · skip
                      have tc_402 := ti_eq c_402
                      refine lv_aload_n G0.1 G0.2.1 dX12_springs_138 rfl (lv_at hl 5 rfl) ?_
                      refine lv_aload_n G0.1 G0.2.1 dX12_springs_139 rfl (lv_at hl 5 rfl) ?_
                      refine lv_iload G0.1 G0.2.1 dX12_springs_140 (lv_at hl 0 rfl) ?_
                      refine py_calli hw (va_runV (As := [.int r_323]) (rest := [.ref u, .int r_323, .ref u]) G0 (c_X12_empties l E G L_j74 f_j74 H_321.size u r_323 hG hWF Tu ⟨by omega, by omega⟩) (cwV 1 G0.2.2.2.2 g_X12_springs_X12_empties_333 rfl rfl rfl (by decide +kernel) ⟨(Nat.le_of_ble_eq_true rfl), (Nat.le_of_ble_eq_true rfl)⟩) (py_preV hw (C := RX12) (T := TX12) (N := 54) rfl hr_76) rfl rfl hl.1 rfl (lv_room (Nat.le_of_ble_eq_true rfl)) dX12_springs_142 ⟨(Nat.le_of_ble_eq_true rfl), (Nat.le_of_ble_eq_true rfl)⟩) (fun r_407 L_403 f_404 H_405 locs hp_406 hw => ?_)
                      obtain ⟨en_408, en_409, en_410, rfl, rfl⟩ := hp_406
                      have hem : r_407.toInt ≠ 0 := fun e => en_408 e (by rw [en_324]; exact (en_83 (by omega)).2)
                      have br_407 := wf_free r_407
                      refine py_calli hw (va_runV (As := [.int r_407]) (rest := [.int r_323, .ref u]) G0 (c_X12_draw l E G L_j74 f_j74 H_405.size u r_407 hG hWF Tu (show r_407.toInt ≠ 0 by omega)) (cwV 1 G0.2.2.2.2 g_X12_springs_X12_draw_368 rfl rfl rfl (by decide +kernel) ⟨(Nat.le_of_ble_eq_true rfl), (Nat.le_of_ble_eq_true rfl)⟩) (py_preV hw (C := RX12) (T := TX12) (N := 54) rfl hr_76) rfl rfl hl.1 rfl (lv_room (Nat.le_of_ble_eq_true rfl)) dX12_springs_145 ⟨(Nat.le_of_ble_eq_true rfl), (Nat.le_of_ble_eq_true rfl)⟩) (fun r_415 L_411 f_412 H_413 locs hp_414 hw => ?_)
                      obtain ⟨hWF, kp_416, fk_417⟩ := hp_414
                      have hSM := hSM.fk hG Tu kp_416 fk_417 (by decide)
                      have hFK := hFK.trans fk_417 (by decide)
                      have hKP := hKP.trans kp_416 (by decide) (by decide)
                      obtain ⟨v_418, hr_419⟩ := fk_30 hWF Tu fk_417 hr_76
                      have tq_420 := mi_row hr_419 25 rfl
                      have br_415 := wf_free r_415
                      refine lv_goto (tgt := 152) G0.1 G0.2.1 dX12_springs_148 (by decide) ?_
                      exact jn_152 r_415 L_411 f_412 _ _ ls hWF hKP hFK hSM hw (lv_sub hl [0, 1, 2, 3, 4, 5] rfl)
                · skip
                  have tc_306 := ti_eq c_306
                  refine lv_iload G0.1 G0.2.1 dX12_springs_103 (lv_at hl 0 rfl) ?_
                  refine lv_iconst (v := (-1)) G0.1 G0.2.1 dX12_springs_105 (by decide) ?_
                  refine lv_icmp_eq (tgt := 113) G0.1 G0.2.1 dX12_springs_106 (by decide) (fun c_421 => ?_) (fun c_421 => ?_)
                  · skip
                    have tc_421 := ti_eq c_421
                    refine lv_iconst (v := 0) G0.1 G0.2.1 dX12_springs_113 (by decide) ?_
                    refine lv_istore_n (lv' := [(2, .int 0), (4, .int r_302), (3, .int r_82), (1, .int v_40), (0, .ref u)]) G0.1 G0.2.1 dX12_springs_114 rfl hl (by decide) rfl (fun ls hl => ?_)
                    refine lv_iload_n G0.1 G0.2.1 dX12_springs_115 rfl (lv_at hl 2 rfl) ?_
                    refine lv_iconst (v := (-1)) G0.1 G0.2.1 dX12_springs_116 (by decide) ?_
                    refine lv_icmp_eq (tgt := 186) G0.1 G0.2.1 dX12_springs_117 (by decide) (fun c_422 => ?_) (fun c_422 => ?_)
                    · skip
                      have tc_422 := ti_eq c_422
                      refine lv_iload G0.1 G0.2.1 dX12_springs_186 (lv_at hl 1 rfl) ?_
                      refine lv_iconst (v := (-1)) G0.1 G0.2.1 dX12_springs_188 (by decide) ?_
                      refine lv_icmp_eq (tgt := 201) G0.1 G0.2.1 dX12_springs_189 (by decide) (fun c_423 => ?_) (fun c_423 => ?_)
                      · skip
                        have tc_423 := ti_eq c_423
                        refine lv_goto (tgt := 74) G0.1 G0.2.1 dX12_springs_201 (by decide) ?_
                        exact ih_74 (2 * wn f_j74 G u (mi f u 25).toNat + (0 : Int32).toInt.toNat) (by omega) 0 v_40 L_j74 f_j74 _ _ ls rfl ⟨by omega, by omega⟩ hWF hKP hFK hw (lv_sub hl [0, 3, 4] rfl)
                      · skip
                        have tc_423 := ti_ne c_423
                        refine lv_iload_n G0.1 G0.2.1 dX12_springs_192 rfl (lv_at hl 3 rfl) ?_
                        refine lv_aload_n G0.1 G0.2.1 dX12_springs_193 rfl (lv_at hl 4 rfl) ?_
                        refine lv_iload G0.1 G0.2.1 dX12_springs_194 (lv_at hl 1 rfl) ?_
                        refine py_calli hw (va_runV (As := [.int r_302]) (rest := [.int v_40]) G0 (c_X12_turn l E G L_j74 f_j74 H_300.size u r_302 hG hWF Tu ⟨by omega, by omega⟩ (show r_302.toInt < mi f_j74 u 25 by omega) (en_303 (by omega)).2 (en_303 (by omega)).1) (cwV 1 G0.2.2.2.2 g_X12_springs_X12_turn_402 rfl rfl rfl (by decide +kernel) ⟨(Nat.le_of_ble_eq_true rfl), (Nat.le_of_ble_eq_true rfl)⟩) (py_preV hw (C := RX12) (T := TX12) (N := 54) rfl hr_76) rfl rfl hl.1 rfl (lv_room (Nat.le_of_ble_eq_true rfl)) dX12_springs_196 ⟨(Nat.le_of_ble_eq_true rfl), (Nat.le_of_ble_eq_true rfl)⟩) (fun r_428 L_424 f_425 H_426 locs hp_427 hw => ?_)
                        obtain ⟨en_429, hWF, kp_430, fk_431⟩ := hp_427
                        have hFK := hFK.trans fk_431 (by decide)
                        have hKP := hKP.trans kp_430 (by decide) (by decide)
                        have hr_76 := kp_at kp_430 hWF Tu (by decide) (by decide) (by decide) hr_76
                        have tq_432 := mi_row hr_76 25 rfl
                        have br_428 := wf_free r_428
                        have hme := en_429
                        rw [hmf] at hme
                        refine lv_iadd G0.1 G0.2.1 dX12_springs_199 ?_
                        refine lv_topi (fun x_433 ex_433 => ?_)
                        first | have tx_433 := ti_add ex_433 (by omega -splitDisjunctions) (by omega -splitDisjunctions) | skip
                        refine lv_istore_n (lv' := [(1, .int x_433), (2, .int 0), (4, .int r_302), (3, .int r_82), (0, .ref u)]) G0.1 G0.2.1 dX12_springs_200 rfl hl (by decide) rfl (fun ls hl => ?_)
                        refine lv_goto (tgt := 74) G0.1 G0.2.1 dX12_springs_201 (by decide) ?_
                        exact ih_74 (2 * wn f_425 G u (mi f u 25).toNat + (0 : Int32).toInt.toNat) (by omega) 0 x_433 L_424 f_425 _ _ ls rfl ⟨by omega, by omega⟩ hWF hKP hFK hw (lv_sub hl [1, 0, 4] rfl)
                    · skip
                      have tc_422 := ti_ne c_422
                      have hSM : SM f_j74 f_j74 G u := SM.refl
                      refine lv_aload_n G0.1 G0.2.1 dX12_springs_120 rfl (lv_at hl 4 rfl) ?_
                      refine lv_iload_n G0.1 G0.2.1 dX12_springs_121 rfl (lv_at hl 2 rfl) ?_
                      refine py_calli hw (va_runV (As := [.int r_82]) (rest := []) G0 (c_X12_want l E G L_j74 f_j74 H_300.size u r_82 hG hWF Tu ⟨by omega, by omega⟩) (cwV 1 G0.2.2.2.2 g_X12_springs_X12_want_351 rfl rfl rfl (by decide +kernel) ⟨(Nat.le_of_ble_eq_true rfl), (Nat.le_of_ble_eq_true rfl)⟩) (py_preV hw (C := RX12) (T := TX12) (N := 54) rfl hr_76) rfl rfl hl.1 rfl (lv_room (Nat.le_of_ble_eq_true rfl)) dX12_springs_122 ⟨(Nat.le_of_ble_eq_true rfl), (Nat.le_of_ble_eq_true rfl)⟩) (fun r_438 L_434 f_435 H_436 locs hp_437 hw => ?_)
                      obtain ⟨b_441, en_439, en_440, rfl, rfl⟩ := hp_437
                      refine lv_istore (lv' := [(5, .int r_438), (2, .int 0), (4, .int r_302), (3, .int r_82), (1, .int v_40), (0, .ref u)]) G0.1 G0.2.1 dX12_springs_125 hl (by decide) rfl (fun ls hl => ?_)
                      refine lv_aload_n G0.1 G0.2.1 dX12_springs_127 rfl (lv_at hl 5 rfl) ?_
                      refine lv_iload G0.1 G0.2.1 dX12_springs_128 (lv_at hl 0 rfl) ?_
                      refine lv_aload_n G0.1 G0.2.1 dX12_springs_130 rfl (lv_at hl 5 rfl) ?_
                      refine py_get (C := RX12) (T := TX12) (N := 54) (k := 33) (v := .int v_57) G0 hw in_X12_springs_X12 rfl hr_76 (by decide) (by decide +kernel) rfl dX12_springs_131 ?_
                      refine lv_iconst (v := 1) G0.1 G0.2.1 dX12_springs_134 (by decide) ?_
                      have jn_152 : ∀ (v_442 : Int32) (L_j152 : List Nat) (f_j152 : py_F) (H_j152 : Heap) (locs : List Loc) (ls : Array Slot), WF E G L_j152 f_j152 → KP G [55, 59, 60, 13] false f f_j152 → FK [30] f f_j152 u → SM f_j74 f_j152 G u → py_W E (va_A (va_pl L f) s.heap.size) s L_j152 f_j152 H_j152 locs → lv_has ls 7 [(5, .int r_438), (2, .int 0), (4, .int r_302), (3, .int r_82), (1, .int v_40), (0, .ref u)] → W p l e (headSpec w_X12_springs ({ frames := 7, cells := 0, slots := 0, locals := 154 })).room s m ([.ref u] : List Value).toArray below meth c H_j152 locs 0 0 (MQ below (py_Qi E L f s.heap.size (fun _ L1 f1 => WF E G L1 f1 ∧ KP G [55, 59, 60, 13] false f f1 ∧ FK [30] f f1 u)) ([.ref u] : List Value).toArray s 0 0 (va_A (va_pl L f) s.heap.size)) (F0 m 152 ls [.int v_442, .int r_438, .ref u]) := by
                        intro v_442 L_j152 f_j152 H_j152 locs ls hWF hKP hFK hSM hw hl
                        obtain ⟨v_443, v_444, v_445, v_446, v_447, v_448, v_449, v_450, v_451, v_452, v_453, v_454, y_455, v_456, v_457, v_458, v_459, v_460, y_461, v_462, y_463, v_464, hr_477, b_465, b_466, b_467, b_468, b_469, b_470, b_471, b_472, b_473, b_474, b_475, b_476⟩ := wg_12 hWF Tu
                        have tq_478 := mi_row hr_477 25 rfl
                        refine py_calli hw (va_runV (As := [.int r_438, .int v_442]) (rest := []) G0 (c_X12_emptyHut l E G L_j152 f_j152 H_j152.size u r_438 v_442 hG hWF Tu ⟨by omega, by omega⟩) (cwV 2 G0.2.2.2.2 g_X12_springs_X12_emptyHut_299 rfl rfl rfl (by decide +kernel) ⟨(Nat.le_of_ble_eq_true rfl), (Nat.le_of_ble_eq_true rfl)⟩) (py_preV hw (C := RX12) (T := TX12) (N := 54) rfl hr_477) rfl rfl hl.1 rfl (lv_room (Nat.le_of_ble_eq_true rfl)) dX12_springs_152 ⟨(Nat.le_of_ble_eq_true rfl), (Nat.le_of_ble_eq_true rfl)⟩) (fun r_483 L_479 f_480 H_481 locs hp_482 hw => ?_)
                        obtain ⟨en_484, en_485, rfl, rfl⟩ := hp_482
                        have br_483 := wf_free r_483
                        refine lv_istore (lv' := [(6, .int r_483), (5, .int r_438), (2, .int 0), (4, .int r_302), (3, .int r_82), (1, .int v_40), (0, .ref u)]) G0.1 G0.2.1 dX12_springs_155 hl (by decide) rfl (fun ls hl => ?_)
                        have hSM1 := hSM
                        refine lv_aload_n G0.1 G0.2.1 dX12_springs_157 rfl (lv_at hl 6 rfl) ?_
                        refine lv_iload_n G0.1 G0.2.1 dX12_springs_158 rfl (lv_at hl 4 rfl) ?_
                        refine lv_iconst (v := 1) G0.1 G0.2.1 dX12_springs_159 (by decide) ?_
                        refine lv_iload G0.1 G0.2.1 dX12_springs_160 (lv_at hl 1 rfl) ?_
                        refine py_callv hw (va_runV (As := [.int r_82, .int 1, .int r_438]) (rest := []) G0 (c_X12_tell l E G L_j152 f_j152 H_481.size u r_82 1 r_438 hG hWF Tu ⟨by omega, by omega⟩ ⟨by omega, by omega⟩ (show ((1 : Int32).toInt = 0 → 0 ≤ r_438.toInt ∧ r_438.toInt ≤ 20) ∧ ((1 : Int32).toInt = 1 → -1 ≤ r_438.toInt ∧ r_438.toInt ≤ 7) by omega)) (cwV 3 G0.2.2.2.2 g_X12_springs_X12_tell_305 rfl rfl rfl (by decide +kernel) ⟨(Nat.le_of_ble_eq_true rfl), (Nat.le_of_ble_eq_true rfl)⟩) (py_preV hw (C := RX12) (T := TX12) (N := 54) rfl hr_477) rfl rfl hl.1 rfl (lv_room (Nat.le_of_ble_eq_true rfl)) dX12_springs_162 ⟨(Nat.le_of_ble_eq_true rfl), (Nat.le_of_ble_eq_true rfl)⟩) (fun L_486 f_487 H_488 locs hp_489 hw => ?_)
                        obtain ⟨en_491, hWF, kp_492, fk_493⟩ := hp_489
                        have en_491 : TL f_j152 f_487 G u r_82.toInt (1 : Int) r_438.toInt := en_491
                        have hFK := hFK.trans fk_493 (by decide)
                        have hKP := hKP.trans kp_492 (by decide) (by decide)
                        have hr_477 := kp_at kp_492 hWF Tu (by decide) (by decide) (by decide) hr_477
                        have tq_494 := mi_row hr_477 25 rfl
                        have sl_495 := SL.of hG Tu kp_492 fk_493 (by decide)
                        refine lv_aload_n G0.1 G0.2.1 dX12_springs_165 rfl (lv_at hl 6 rfl) ?_
                        refine lv_iload_n G0.1 G0.2.1 dX12_springs_166 rfl (lv_at hl 4 rfl) ?_
                        refine lv_iconst (v := 2) G0.1 G0.2.1 dX12_springs_167 (by decide) ?_
                        refine lv_iload G0.1 G0.2.1 dX12_springs_168 (lv_at hl 0 rfl) ?_
                        refine py_callv hw (va_runV (As := [.int r_82, .int 2, .int r_483]) (rest := []) G0 (c_X12_tell l E G L_486 f_487 H_488.size u r_82 2 r_483 hG hWF Tu ⟨by omega, by omega⟩ ⟨by omega, by omega⟩ (show ((2 : Int32).toInt = 0 → 0 ≤ r_483.toInt ∧ r_483.toInt ≤ 20) ∧ ((2 : Int32).toInt = 1 → -1 ≤ r_483.toInt ∧ r_483.toInt ≤ 7) by omega)) (cwV 3 G0.2.2.2.2 g_X12_springs_X12_tell_305 rfl rfl rfl (by decide +kernel) ⟨(Nat.le_of_ble_eq_true rfl), (Nat.le_of_ble_eq_true rfl)⟩) (py_preV hw (C := RX12) (T := TX12) (N := 54) rfl hr_477) rfl rfl hl.1 rfl (lv_room (Nat.le_of_ble_eq_true rfl)) dX12_springs_170 ⟨(Nat.le_of_ble_eq_true rfl), (Nat.le_of_ble_eq_true rfl)⟩) (fun L_496 f_497 H_498 locs hp_499 hw => ?_)
                        obtain ⟨en_501, hWF, kp_502, fk_503⟩ := hp_499
                        have en_501 : TL f_487 f_497 G u r_82.toInt (2 : Int) r_483.toInt := en_501
                        have hFK := hFK.trans fk_503 (by decide)
                        have hKP := hKP.trans kp_502 (by decide) (by decide)
                        have hr_477 := kp_at kp_502 hWF Tu (by decide) (by decide) (by decide) hr_477
                        have tq_504 := mi_row hr_477 25 rfl
                        have sl_505 := SL.of hG Tu kp_502 fk_503 (by decide)
                        refine lv_aload_n G0.1 G0.2.1 dX12_springs_173 rfl (lv_at hl 6 rfl) ?_
                        refine lv_iload_n G0.1 G0.2.1 dX12_springs_174 rfl (lv_at hl 4 rfl) ?_
                        refine lv_iconst (v := 3) G0.1 G0.2.1 dX12_springs_175 (by decide) ?_
                        refine lv_iconst (v := 0) G0.1 G0.2.1 dX12_springs_176 (by decide) ?_
                        refine py_callv hw (va_runV (As := [.int r_82, .int 3, .int 0]) (rest := []) G0 (c_X12_tell l E G L_496 f_497 H_498.size u r_82 3 0 hG hWF Tu ⟨by omega, by omega⟩ ⟨by omega, by omega⟩ (show ((3 : Int32).toInt = 0 → 0 ≤ (0 : Int32).toInt ∧ (0 : Int32).toInt ≤ 20) ∧ ((3 : Int32).toInt = 1 → -1 ≤ (0 : Int32).toInt ∧ (0 : Int32).toInt ≤ 7) by omega)) (cwV 3 G0.2.2.2.2 g_X12_springs_X12_tell_305 rfl rfl rfl (by decide +kernel) ⟨(Nat.le_of_ble_eq_true rfl), (Nat.le_of_ble_eq_true rfl)⟩) (py_preV hw (C := RX12) (T := TX12) (N := 54) rfl hr_477) rfl rfl hl.1 rfl (lv_room (Nat.le_of_ble_eq_true rfl)) dX12_springs_177 ⟨(Nat.le_of_ble_eq_true rfl), (Nat.le_of_ble_eq_true rfl)⟩) (fun L_506 f_507 H_508 locs hp_509 hw => ?_)
                        obtain ⟨en_511, hWF, kp_512, fk_513⟩ := hp_509
                        have en_511 : TL f_497 f_507 G u r_82.toInt (3 : Int) (0 : Int) := en_511
                        have hFK := hFK.trans fk_513 (by decide)
                        have hKP := hKP.trans kp_512 (by decide) (by decide)
                        have hr_477 := kp_at kp_512 hWF Tu (by decide) (by decide) (by decide) hr_477
                        have tq_514 := mi_row hr_477 25 rfl
                        have sl_515 := SL.of hG Tu kp_512 fk_513 (by decide)
                        have hme := gone_end hSM1 ((sl_495.trans sl_505).trans sl_515) en_491 en_501 en_511 (by omega) (by omega) (en_83 (by omega)).1 en_439
                        rw [hmf] at hme
                        obtain ⟨x_516, ex_516⟩ : ∃ y : Int32, y = v_40 + 1 := ⟨_, rfl⟩
                        first | have tx_516 := ti_add ex_516 (by omega -splitDisjunctions) (by omega -splitDisjunctions) | skip
                        refine lv_iinc (v := x_516) (lv' := [(1, .int x_516), (6, .int r_483), (5, .int r_438), (2, .int 0), (4, .int r_302), (3, .int r_82), (0, .ref u)]) G0.1 G0.2.1 dX12_springs_180 hl (k := 5) rfl (show _ + (1 : Int32) = _ from ex_516.symm) (by decide) rfl (fun ls hl => ?_)
                        refine lv_goto (tgt := 201) G0.1 G0.2.1 dX12_springs_183 (by decide) ?_
                        refine lv_goto (tgt := 74) G0.1 G0.2.1 dX12_springs_201 (by decide) ?_
                        exact ih_74 (2 * wn f_507 G u (mi f u 25).toNat + (0 : Int32).toInt.toNat) (by omega) 0 x_516 L_506 f_507 _ _ ls rfl ⟨by omega, by omega⟩ hWF hKP hFK hw (lv_sub hl [3, 0, 6] rfl)
                      refine lv_icmp_ne (tgt := 151) G0.1 G0.2.1 dX12_springs_135 (by decide) (fun c_517 => ?_) (fun c_517 => ?_)
                      · skip
                        have tc_517 := ti_ne c_517
                        refine lv_iconst (v := 0) G0.1 G0.2.1 dX12_springs_151 (by decide) ?_
                        exact jn_152 0 L_j74 f_j74 _ _ ls hWF hKP hFK hSM hw (lv_sub hl [0, 1, 2, 3, 4, 5] rfl)
                      · skip
                        have tc_517 := ti_eq c_517
                        refine lv_aload_n G0.1 G0.2.1 dX12_springs_138 rfl (lv_at hl 5 rfl) ?_
                        refine lv_aload_n G0.1 G0.2.1 dX12_springs_139 rfl (lv_at hl 5 rfl) ?_
                        refine lv_iload G0.1 G0.2.1 dX12_springs_140 (lv_at hl 0 rfl) ?_
                        refine py_calli hw (va_runV (As := [.int r_438]) (rest := [.ref u, .int r_438, .ref u]) G0 (c_X12_empties l E G L_j74 f_j74 H_436.size u r_438 hG hWF Tu ⟨by omega, by omega⟩) (cwV 1 G0.2.2.2.2 g_X12_springs_X12_empties_333 rfl rfl rfl (by decide +kernel) ⟨(Nat.le_of_ble_eq_true rfl), (Nat.le_of_ble_eq_true rfl)⟩) (py_preV hw (C := RX12) (T := TX12) (N := 54) rfl hr_76) rfl rfl hl.1 rfl (lv_room (Nat.le_of_ble_eq_true rfl)) dX12_springs_142 ⟨(Nat.le_of_ble_eq_true rfl), (Nat.le_of_ble_eq_true rfl)⟩) (fun r_522 L_518 f_519 H_520 locs hp_521 hw => ?_)
                        obtain ⟨en_523, en_524, en_525, rfl, rfl⟩ := hp_521
                        have hem : r_522.toInt ≠ 0 := fun e => en_523 e (by rw [en_439]; exact (en_83 (by omega)).2)
                        have br_522 := wf_free r_522
                        refine py_calli hw (va_runV (As := [.int r_522]) (rest := [.int r_438, .ref u]) G0 (c_X12_draw l E G L_j74 f_j74 H_520.size u r_522 hG hWF Tu (show r_522.toInt ≠ 0 by omega)) (cwV 1 G0.2.2.2.2 g_X12_springs_X12_draw_368 rfl rfl rfl (by decide +kernel) ⟨(Nat.le_of_ble_eq_true rfl), (Nat.le_of_ble_eq_true rfl)⟩) (py_preV hw (C := RX12) (T := TX12) (N := 54) rfl hr_76) rfl rfl hl.1 rfl (lv_room (Nat.le_of_ble_eq_true rfl)) dX12_springs_145 ⟨(Nat.le_of_ble_eq_true rfl), (Nat.le_of_ble_eq_true rfl)⟩) (fun r_530 L_526 f_527 H_528 locs hp_529 hw => ?_)
                        obtain ⟨hWF, kp_531, fk_532⟩ := hp_529
                        have hSM := hSM.fk hG Tu kp_531 fk_532 (by decide)
                        have hFK := hFK.trans fk_532 (by decide)
                        have hKP := hKP.trans kp_531 (by decide) (by decide)
                        obtain ⟨v_533, hr_534⟩ := fk_30 hWF Tu fk_532 hr_76
                        have tq_535 := mi_row hr_534 25 rfl
                        have br_530 := wf_free r_530
                        refine lv_goto (tgt := 152) G0.1 G0.2.1 dX12_springs_148 (by decide) ?_
                        exact jn_152 r_530 L_526 f_527 _ _ ls hWF hKP hFK hSM hw (lv_sub hl [0, 1, 2, 3, 4, 5] rfl)
                  · skip
                    have tc_421 := ti_ne c_421
                    refine lv_iconst (v := 1) G0.1 G0.2.1 dX12_springs_109 (by decide) ?_
                    refine lv_goto (tgt := 114) G0.1 G0.2.1 dX12_springs_110 (by decide) ?_
                    refine lv_istore_n (lv' := [(2, .int 1), (4, .int r_302), (3, .int r_82), (1, .int v_40), (0, .ref u)]) G0.1 G0.2.1 dX12_springs_114 rfl hl (by decide) rfl (fun ls hl => ?_)
                    refine lv_iload_n G0.1 G0.2.1 dX12_springs_115 rfl (lv_at hl 2 rfl) ?_
                    refine lv_iconst (v := (-1)) G0.1 G0.2.1 dX12_springs_116 (by decide) ?_
                    refine lv_icmp_eq (tgt := 186) G0.1 G0.2.1 dX12_springs_117 (by decide) (fun c_536 => ?_) (fun c_536 => ?_)
                    · skip
                      have tc_536 := ti_eq c_536
                      refine lv_iload G0.1 G0.2.1 dX12_springs_186 (lv_at hl 1 rfl) ?_
                      refine lv_iconst (v := (-1)) G0.1 G0.2.1 dX12_springs_188 (by decide) ?_
                      refine lv_icmp_eq (tgt := 201) G0.1 G0.2.1 dX12_springs_189 (by decide) (fun c_537 => ?_) (fun c_537 => ?_)
                      · skip
                        have tc_537 := ti_eq c_537
                        refine lv_goto (tgt := 74) G0.1 G0.2.1 dX12_springs_201 (by decide) ?_
                        exact ih_74 (2 * wn f_j74 G u (mi f u 25).toNat + (1 : Int32).toInt.toNat) (by omega) 1 v_40 L_j74 f_j74 _ _ ls rfl ⟨by omega, by omega⟩ hWF hKP hFK hw (lv_sub hl [0, 3, 4] rfl)
                      · skip
                        have tc_537 := ti_ne c_537
                        refine lv_iload_n G0.1 G0.2.1 dX12_springs_192 rfl (lv_at hl 3 rfl) ?_
                        refine lv_aload_n G0.1 G0.2.1 dX12_springs_193 rfl (lv_at hl 4 rfl) ?_
                        refine lv_iload G0.1 G0.2.1 dX12_springs_194 (lv_at hl 1 rfl) ?_
                        refine py_calli hw (va_runV (As := [.int r_302]) (rest := [.int v_40]) G0 (c_X12_turn l E G L_j74 f_j74 H_300.size u r_302 hG hWF Tu ⟨by omega, by omega⟩ (show r_302.toInt < mi f_j74 u 25 by omega) (en_303 (by omega)).2 (en_303 (by omega)).1) (cwV 1 G0.2.2.2.2 g_X12_springs_X12_turn_402 rfl rfl rfl (by decide +kernel) ⟨(Nat.le_of_ble_eq_true rfl), (Nat.le_of_ble_eq_true rfl)⟩) (py_preV hw (C := RX12) (T := TX12) (N := 54) rfl hr_76) rfl rfl hl.1 rfl (lv_room (Nat.le_of_ble_eq_true rfl)) dX12_springs_196 ⟨(Nat.le_of_ble_eq_true rfl), (Nat.le_of_ble_eq_true rfl)⟩) (fun r_542 L_538 f_539 H_540 locs hp_541 hw => ?_)
                        obtain ⟨en_543, hWF, kp_544, fk_545⟩ := hp_541
                        have hFK := hFK.trans fk_545 (by decide)
                        have hKP := hKP.trans kp_544 (by decide) (by decide)
                        have hr_76 := kp_at kp_544 hWF Tu (by decide) (by decide) (by decide) hr_76
                        have tq_546 := mi_row hr_76 25 rfl
                        have br_542 := wf_free r_542
                        have hme := en_543
                        rw [hmf] at hme
                        refine lv_iadd G0.1 G0.2.1 dX12_springs_199 ?_
                        refine lv_topi (fun x_547 ex_547 => ?_)
                        first | have tx_547 := ti_add ex_547 (by omega -splitDisjunctions) (by omega -splitDisjunctions) | skip
                        refine lv_istore_n (lv' := [(1, .int x_547), (2, .int 1), (4, .int r_302), (3, .int r_82), (0, .ref u)]) G0.1 G0.2.1 dX12_springs_200 rfl hl (by decide) rfl (fun ls hl => ?_)
                        refine lv_goto (tgt := 74) G0.1 G0.2.1 dX12_springs_201 (by decide) ?_
                        exact ih_74 (2 * wn f_539 G u (mi f u 25).toNat + (1 : Int32).toInt.toNat) (by omega) 1 x_547 L_538 f_539 _ _ ls rfl ⟨by omega, by omega⟩ hWF hKP hFK hw (lv_sub hl [1, 0, 4] rfl)
                    · skip
                      have tc_536 := ti_ne c_536
                      have hSM : SM f_j74 f_j74 G u := SM.refl
                      refine lv_aload_n G0.1 G0.2.1 dX12_springs_120 rfl (lv_at hl 4 rfl) ?_
                      refine lv_iload_n G0.1 G0.2.1 dX12_springs_121 rfl (lv_at hl 2 rfl) ?_
                      refine py_calli hw (va_runV (As := [.int r_82]) (rest := []) G0 (c_X12_want l E G L_j74 f_j74 H_300.size u r_82 hG hWF Tu ⟨by omega, by omega⟩) (cwV 1 G0.2.2.2.2 g_X12_springs_X12_want_351 rfl rfl rfl (by decide +kernel) ⟨(Nat.le_of_ble_eq_true rfl), (Nat.le_of_ble_eq_true rfl)⟩) (py_preV hw (C := RX12) (T := TX12) (N := 54) rfl hr_76) rfl rfl hl.1 rfl (lv_room (Nat.le_of_ble_eq_true rfl)) dX12_springs_122 ⟨(Nat.le_of_ble_eq_true rfl), (Nat.le_of_ble_eq_true rfl)⟩) (fun r_552 L_548 f_549 H_550 locs hp_551 hw => ?_)
                      obtain ⟨b_555, en_553, en_554, rfl, rfl⟩ := hp_551
                      refine lv_istore (lv' := [(5, .int r_552), (2, .int 1), (4, .int r_302), (3, .int r_82), (1, .int v_40), (0, .ref u)]) G0.1 G0.2.1 dX12_springs_125 hl (by decide) rfl (fun ls hl => ?_)
                      refine lv_aload_n G0.1 G0.2.1 dX12_springs_127 rfl (lv_at hl 5 rfl) ?_
                      refine lv_iload G0.1 G0.2.1 dX12_springs_128 (lv_at hl 0 rfl) ?_
                      refine lv_aload_n G0.1 G0.2.1 dX12_springs_130 rfl (lv_at hl 5 rfl) ?_
                      refine py_get (C := RX12) (T := TX12) (N := 54) (k := 33) (v := .int v_57) G0 hw in_X12_springs_X12 rfl hr_76 (by decide) (by decide +kernel) rfl dX12_springs_131 ?_
                      refine lv_iconst (v := 1) G0.1 G0.2.1 dX12_springs_134 (by decide) ?_
                      have jn_152 : ∀ (v_556 : Int32) (L_j152 : List Nat) (f_j152 : py_F) (H_j152 : Heap) (locs : List Loc) (ls : Array Slot), WF E G L_j152 f_j152 → KP G [55, 59, 60, 13] false f f_j152 → FK [30] f f_j152 u → SM f_j74 f_j152 G u → py_W E (va_A (va_pl L f) s.heap.size) s L_j152 f_j152 H_j152 locs → lv_has ls 7 [(5, .int r_552), (2, .int 1), (4, .int r_302), (3, .int r_82), (1, .int v_40), (0, .ref u)] → W p l e (headSpec w_X12_springs ({ frames := 7, cells := 0, slots := 0, locals := 154 })).room s m ([.ref u] : List Value).toArray below meth c H_j152 locs 0 0 (MQ below (py_Qi E L f s.heap.size (fun _ L1 f1 => WF E G L1 f1 ∧ KP G [55, 59, 60, 13] false f f1 ∧ FK [30] f f1 u)) ([.ref u] : List Value).toArray s 0 0 (va_A (va_pl L f) s.heap.size)) (F0 m 152 ls [.int v_556, .int r_552, .ref u]) := by
                        intro v_556 L_j152 f_j152 H_j152 locs ls hWF hKP hFK hSM hw hl
                        obtain ⟨v_557, v_558, v_559, v_560, v_561, v_562, v_563, v_564, v_565, v_566, v_567, v_568, y_569, v_570, v_571, v_572, v_573, v_574, y_575, v_576, y_577, v_578, hr_591, b_579, b_580, b_581, b_582, b_583, b_584, b_585, b_586, b_587, b_588, b_589, b_590⟩ := wg_12 hWF Tu
                        have tq_592 := mi_row hr_591 25 rfl
                        refine py_calli hw (va_runV (As := [.int r_552, .int v_556]) (rest := []) G0 (c_X12_emptyHut l E G L_j152 f_j152 H_j152.size u r_552 v_556 hG hWF Tu ⟨by omega, by omega⟩) (cwV 2 G0.2.2.2.2 g_X12_springs_X12_emptyHut_299 rfl rfl rfl (by decide +kernel) ⟨(Nat.le_of_ble_eq_true rfl), (Nat.le_of_ble_eq_true rfl)⟩) (py_preV hw (C := RX12) (T := TX12) (N := 54) rfl hr_591) rfl rfl hl.1 rfl (lv_room (Nat.le_of_ble_eq_true rfl)) dX12_springs_152 ⟨(Nat.le_of_ble_eq_true rfl), (Nat.le_of_ble_eq_true rfl)⟩) (fun r_597 L_593 f_594 H_595 locs hp_596 hw => ?_)
                        obtain ⟨en_598, en_599, rfl, rfl⟩ := hp_596
                        have br_597 := wf_free r_597
                        refine lv_istore (lv' := [(6, .int r_597), (5, .int r_552), (2, .int 1), (4, .int r_302), (3, .int r_82), (1, .int v_40), (0, .ref u)]) G0.1 G0.2.1 dX12_springs_155 hl (by decide) rfl (fun ls hl => ?_)
                        have hSM1 := hSM
                        refine lv_aload_n G0.1 G0.2.1 dX12_springs_157 rfl (lv_at hl 6 rfl) ?_
                        refine lv_iload_n G0.1 G0.2.1 dX12_springs_158 rfl (lv_at hl 4 rfl) ?_
                        refine lv_iconst (v := 1) G0.1 G0.2.1 dX12_springs_159 (by decide) ?_
                        refine lv_iload G0.1 G0.2.1 dX12_springs_160 (lv_at hl 1 rfl) ?_
                        refine py_callv hw (va_runV (As := [.int r_82, .int 1, .int r_552]) (rest := []) G0 (c_X12_tell l E G L_j152 f_j152 H_595.size u r_82 1 r_552 hG hWF Tu ⟨by omega, by omega⟩ ⟨by omega, by omega⟩ (show ((1 : Int32).toInt = 0 → 0 ≤ r_552.toInt ∧ r_552.toInt ≤ 20) ∧ ((1 : Int32).toInt = 1 → -1 ≤ r_552.toInt ∧ r_552.toInt ≤ 7) by omega)) (cwV 3 G0.2.2.2.2 g_X12_springs_X12_tell_305 rfl rfl rfl (by decide +kernel) ⟨(Nat.le_of_ble_eq_true rfl), (Nat.le_of_ble_eq_true rfl)⟩) (py_preV hw (C := RX12) (T := TX12) (N := 54) rfl hr_591) rfl rfl hl.1 rfl (lv_room (Nat.le_of_ble_eq_true rfl)) dX12_springs_162 ⟨(Nat.le_of_ble_eq_true rfl), (Nat.le_of_ble_eq_true rfl)⟩) (fun L_600 f_601 H_602 locs hp_603 hw => ?_)
                        obtain ⟨en_605, hWF, kp_606, fk_607⟩ := hp_603
                        have en_605 : TL f_j152 f_601 G u r_82.toInt (1 : Int) r_552.toInt := en_605
                        have hFK := hFK.trans fk_607 (by decide)
                        have hKP := hKP.trans kp_606 (by decide) (by decide)
                        have hr_591 := kp_at kp_606 hWF Tu (by decide) (by decide) (by decide) hr_591
                        have tq_608 := mi_row hr_591 25 rfl
                        have sl_609 := SL.of hG Tu kp_606 fk_607 (by decide)
                        refine lv_aload_n G0.1 G0.2.1 dX12_springs_165 rfl (lv_at hl 6 rfl) ?_
                        refine lv_iload_n G0.1 G0.2.1 dX12_springs_166 rfl (lv_at hl 4 rfl) ?_
                        refine lv_iconst (v := 2) G0.1 G0.2.1 dX12_springs_167 (by decide) ?_
                        refine lv_iload G0.1 G0.2.1 dX12_springs_168 (lv_at hl 0 rfl) ?_
                        refine py_callv hw (va_runV (As := [.int r_82, .int 2, .int r_597]) (rest := []) G0 (c_X12_tell l E G L_600 f_601 H_602.size u r_82 2 r_597 hG hWF Tu ⟨by omega, by omega⟩ ⟨by omega, by omega⟩ (show ((2 : Int32).toInt = 0 → 0 ≤ r_597.toInt ∧ r_597.toInt ≤ 20) ∧ ((2 : Int32).toInt = 1 → -1 ≤ r_597.toInt ∧ r_597.toInt ≤ 7) by omega)) (cwV 3 G0.2.2.2.2 g_X12_springs_X12_tell_305 rfl rfl rfl (by decide +kernel) ⟨(Nat.le_of_ble_eq_true rfl), (Nat.le_of_ble_eq_true rfl)⟩) (py_preV hw (C := RX12) (T := TX12) (N := 54) rfl hr_591) rfl rfl hl.1 rfl (lv_room (Nat.le_of_ble_eq_true rfl)) dX12_springs_170 ⟨(Nat.le_of_ble_eq_true rfl), (Nat.le_of_ble_eq_true rfl)⟩) (fun L_610 f_611 H_612 locs hp_613 hw => ?_)
                        obtain ⟨en_615, hWF, kp_616, fk_617⟩ := hp_613
                        have en_615 : TL f_601 f_611 G u r_82.toInt (2 : Int) r_597.toInt := en_615
                        have hFK := hFK.trans fk_617 (by decide)
                        have hKP := hKP.trans kp_616 (by decide) (by decide)
                        have hr_591 := kp_at kp_616 hWF Tu (by decide) (by decide) (by decide) hr_591
                        have tq_618 := mi_row hr_591 25 rfl
                        have sl_619 := SL.of hG Tu kp_616 fk_617 (by decide)
                        refine lv_aload_n G0.1 G0.2.1 dX12_springs_173 rfl (lv_at hl 6 rfl) ?_
                        refine lv_iload_n G0.1 G0.2.1 dX12_springs_174 rfl (lv_at hl 4 rfl) ?_
                        refine lv_iconst (v := 3) G0.1 G0.2.1 dX12_springs_175 (by decide) ?_
                        refine lv_iconst (v := 0) G0.1 G0.2.1 dX12_springs_176 (by decide) ?_
                        refine py_callv hw (va_runV (As := [.int r_82, .int 3, .int 0]) (rest := []) G0 (c_X12_tell l E G L_610 f_611 H_612.size u r_82 3 0 hG hWF Tu ⟨by omega, by omega⟩ ⟨by omega, by omega⟩ (show ((3 : Int32).toInt = 0 → 0 ≤ (0 : Int32).toInt ∧ (0 : Int32).toInt ≤ 20) ∧ ((3 : Int32).toInt = 1 → -1 ≤ (0 : Int32).toInt ∧ (0 : Int32).toInt ≤ 7) by omega)) (cwV 3 G0.2.2.2.2 g_X12_springs_X12_tell_305 rfl rfl rfl (by decide +kernel) ⟨(Nat.le_of_ble_eq_true rfl), (Nat.le_of_ble_eq_true rfl)⟩) (py_preV hw (C := RX12) (T := TX12) (N := 54) rfl hr_591) rfl rfl hl.1 rfl (lv_room (Nat.le_of_ble_eq_true rfl)) dX12_springs_177 ⟨(Nat.le_of_ble_eq_true rfl), (Nat.le_of_ble_eq_true rfl)⟩) (fun L_620 f_621 H_622 locs hp_623 hw => ?_)
                        obtain ⟨en_625, hWF, kp_626, fk_627⟩ := hp_623
                        have en_625 : TL f_611 f_621 G u r_82.toInt (3 : Int) (0 : Int) := en_625
                        have hFK := hFK.trans fk_627 (by decide)
                        have hKP := hKP.trans kp_626 (by decide) (by decide)
                        have hr_591 := kp_at kp_626 hWF Tu (by decide) (by decide) (by decide) hr_591
                        have tq_628 := mi_row hr_591 25 rfl
                        have sl_629 := SL.of hG Tu kp_626 fk_627 (by decide)
                        have hme := gone_end hSM1 ((sl_609.trans sl_619).trans sl_629) en_605 en_615 en_625 (by omega) (by omega) (en_83 (by omega)).1 en_553
                        rw [hmf] at hme
                        obtain ⟨x_630, ex_630⟩ : ∃ y : Int32, y = v_40 + 1 := ⟨_, rfl⟩
                        first | have tx_630 := ti_add ex_630 (by omega -splitDisjunctions) (by omega -splitDisjunctions) | skip
                        refine lv_iinc (v := x_630) (lv' := [(1, .int x_630), (6, .int r_597), (5, .int r_552), (2, .int 1), (4, .int r_302), (3, .int r_82), (0, .ref u)]) G0.1 G0.2.1 dX12_springs_180 hl (k := 5) rfl (show _ + (1 : Int32) = _ from ex_630.symm) (by decide) rfl (fun ls hl => ?_)
                        refine lv_goto (tgt := 201) G0.1 G0.2.1 dX12_springs_183 (by decide) ?_
                        refine lv_goto (tgt := 74) G0.1 G0.2.1 dX12_springs_201 (by decide) ?_
                        exact ih_74 (2 * wn f_621 G u (mi f u 25).toNat + (1 : Int32).toInt.toNat) (by omega) 1 x_630 L_620 f_621 _ _ ls rfl ⟨by omega, by omega⟩ hWF hKP hFK hw (lv_sub hl [3, 0, 6] rfl)
                      refine lv_icmp_ne (tgt := 151) G0.1 G0.2.1 dX12_springs_135 (by decide) (fun c_631 => ?_) (fun c_631 => ?_)
                      · skip
                        have tc_631 := ti_ne c_631
                        refine lv_iconst (v := 0) G0.1 G0.2.1 dX12_springs_151 (by decide) ?_
                        exact jn_152 0 L_j74 f_j74 _ _ ls hWF hKP hFK hSM hw (lv_sub hl [0, 1, 2, 3, 4, 5] rfl)
                      · skip
                        have tc_631 := ti_eq c_631
                        refine lv_aload_n G0.1 G0.2.1 dX12_springs_138 rfl (lv_at hl 5 rfl) ?_
                        refine lv_aload_n G0.1 G0.2.1 dX12_springs_139 rfl (lv_at hl 5 rfl) ?_
                        refine lv_iload G0.1 G0.2.1 dX12_springs_140 (lv_at hl 0 rfl) ?_
                        refine py_calli hw (va_runV (As := [.int r_552]) (rest := [.ref u, .int r_552, .ref u]) G0 (c_X12_empties l E G L_j74 f_j74 H_550.size u r_552 hG hWF Tu ⟨by omega, by omega⟩) (cwV 1 G0.2.2.2.2 g_X12_springs_X12_empties_333 rfl rfl rfl (by decide +kernel) ⟨(Nat.le_of_ble_eq_true rfl), (Nat.le_of_ble_eq_true rfl)⟩) (py_preV hw (C := RX12) (T := TX12) (N := 54) rfl hr_76) rfl rfl hl.1 rfl (lv_room (Nat.le_of_ble_eq_true rfl)) dX12_springs_142 ⟨(Nat.le_of_ble_eq_true rfl), (Nat.le_of_ble_eq_true rfl)⟩) (fun r_636 L_632 f_633 H_634 locs hp_635 hw => ?_)
                        obtain ⟨en_637, en_638, en_639, rfl, rfl⟩ := hp_635
                        have hem : r_636.toInt ≠ 0 := fun e => en_637 e (by rw [en_553]; exact (en_83 (by omega)).2)
                        have br_636 := wf_free r_636
                        refine py_calli hw (va_runV (As := [.int r_636]) (rest := [.int r_552, .ref u]) G0 (c_X12_draw l E G L_j74 f_j74 H_634.size u r_636 hG hWF Tu (show r_636.toInt ≠ 0 by omega)) (cwV 1 G0.2.2.2.2 g_X12_springs_X12_draw_368 rfl rfl rfl (by decide +kernel) ⟨(Nat.le_of_ble_eq_true rfl), (Nat.le_of_ble_eq_true rfl)⟩) (py_preV hw (C := RX12) (T := TX12) (N := 54) rfl hr_76) rfl rfl hl.1 rfl (lv_room (Nat.le_of_ble_eq_true rfl)) dX12_springs_145 ⟨(Nat.le_of_ble_eq_true rfl), (Nat.le_of_ble_eq_true rfl)⟩) (fun r_644 L_640 f_641 H_642 locs hp_643 hw => ?_)
                        obtain ⟨hWF, kp_645, fk_646⟩ := hp_643
                        have hSM := hSM.fk hG Tu kp_645 fk_646 (by decide)
                        have hFK := hFK.trans fk_646 (by decide)
                        have hKP := hKP.trans kp_645 (by decide) (by decide)
                        obtain ⟨v_647, hr_648⟩ := fk_30 hWF Tu fk_646 hr_76
                        have tq_649 := mi_row hr_648 25 rfl
                        have br_644 := wf_free r_644
                        refine lv_goto (tgt := 152) G0.1 G0.2.1 dX12_springs_148 (by decide) ?_
                        exact jn_152 r_644 L_640 f_641 _ _ ls hWF hKP hFK hSM hw (lv_sub hl [0, 1, 2, 3, 4, 5] rfl)
        exact lo_74 _ 1 0 L_j2 f_j2 _ _ ls rfl ⟨by omega, by omega⟩ hWF hKP hFK hw (lv_sub hl [0, 1, 2] rfl)
      · skip
        have tc_38 := ti_nle c_38
        refine lv_aload_n G0.1 G0.2.1 dX12_springs_10 rfl (lv_at hl 1 rfl) ?_
        refine lv_iload_n G0.1 G0.2.1 dX12_springs_11 rfl (lv_at hl 0 rfl) ?_
        refine py_calli hw (va_runV (As := [.int v_1]) (rest := []) G0 (c_X12_isGone l E G L_j2 f_j2 H_j2.size u v_1 hG hWF Tu ⟨by omega, by omega⟩) (cwV 1 G0.2.2.2.2 g_X12_springs_X12_isGone_341 rfl rfl rfl (by decide +kernel) ⟨(Nat.le_of_ble_eq_true rfl), (Nat.le_of_ble_eq_true rfl)⟩) (py_preV hw (C := RX12) (T := TX12) (N := 54) rfl hr_36) rfl rfl hl.1 rfl (lv_room (Nat.le_of_ble_eq_true rfl)) dX12_springs_12 ⟨(Nat.le_of_ble_eq_true rfl), (Nat.le_of_ble_eq_true rfl)⟩) (fun r_654 L_650 f_651 H_652 locs hp_653 hw => ?_)
        obtain ⟨b_657, en_655, en_656, rfl, rfl⟩ := hp_653
        refine lv_if_ne (tgt := 64) G0.1 G0.2.1 dX12_springs_15 (by decide) (fun c_658 => ?_) (fun c_658 => ?_)
        · skip
          have tc_658 := ti_ne c_658
          replace en_655 := en_655 (by omega)
          clear en_656
          obtain ⟨x_659, ex_659⟩ : ∃ y : Int32, y = v_1 + 1 := ⟨_, rfl⟩
          first | have tx_659 := ti_add ex_659 (by omega -splitDisjunctions) (by omega -splitDisjunctions) | skip
          refine lv_iinc (v := x_659) (lv' := [(1, .int x_659), (0, .ref u)]) G0.1 G0.2.1 dX12_springs_64 hl (k := 0) rfl (show _ + (1 : Int32) = _ from ex_659.symm) (by decide) rfl (fun ls hl => ?_)
          refine lv_goto (tgt := 2) G0.1 G0.2.1 dX12_springs_67 (by decide) ?_
          exact ih_2 ((2147483647 - x_659.toInt).toNat) (by omega) x_659 L_j2 f_j2 _ _ ls rfl ⟨by omega, by omega⟩ hWF hKP hFK hw (lv_sub hl [0, 1] rfl)
        · skip
          have tc_658 := ti_eq c_658
          clear en_655
          replace en_656 := en_656 (by omega)
          refine lv_aload_n G0.1 G0.2.1 dX12_springs_18 rfl (lv_at hl 1 rfl) ?_
          refine lv_iload_n G0.1 G0.2.1 dX12_springs_19 rfl (lv_at hl 0 rfl) ?_
          refine lv_iconst (v := 3) G0.1 G0.2.1 dX12_springs_20 (by decide) ?_
          refine lv_aload_n G0.1 G0.2.1 dX12_springs_21 rfl (lv_at hl 1 rfl) ?_
          refine lv_iload_n G0.1 G0.2.1 dX12_springs_22 rfl (lv_at hl 0 rfl) ?_
          refine lv_iconst (v := 3) G0.1 G0.2.1 dX12_springs_23 (by decide) ?_
          refine py_calli hw (va_runV (As := [.int v_1, .int 3]) (rest := [.int 3, .int v_1, .ref u]) G0 (c_X12_of l E G L_j2 f_j2 H_652.size u v_1 3 hG hWF Tu ⟨by omega, by omega⟩ ⟨by omega, by omega⟩) (cwV 2 G0.2.2.2.2 g_X12_springs_X12_of_287 rfl rfl rfl (by decide +kernel) ⟨(Nat.le_of_ble_eq_true rfl), (Nat.le_of_ble_eq_true rfl)⟩) (py_preV hw (C := RX12) (T := TX12) (N := 54) rfl hr_36) rfl rfl hl.1 rfl (lv_room (Nat.le_of_ble_eq_true rfl)) dX12_springs_24 ⟨(Nat.le_of_ble_eq_true rfl), (Nat.le_of_ble_eq_true rfl)⟩) (fun r_664 L_660 f_661 H_662 locs hp_663 hw => ?_)
          obtain ⟨en_665, en_666, rfl, rfl⟩ := hp_663
          have en_665 : r_664.toInt = nw f_j2 G u v_1.toInt (3 : Int) := en_665
          have en_666 : ((3 : Int) = 0 → 0 ≤ r_664.toInt ∧ r_664.toInt ≤ 20) ∧ ((3 : Int) = 1 → -1 ≤ r_664.toInt ∧ r_664.toInt ≤ 7) := en_666
          have br_664 := wf_free r_664
          refine lv_aload_n G0.1 G0.2.1 dX12_springs_27 rfl (lv_at hl 1 rfl) ?_
          refine lv_iload_n G0.1 G0.2.1 dX12_springs_28 rfl (lv_at hl 0 rfl) ?_
          refine lv_bipush (v := 6) G0.1 G0.2.1 dX12_springs_29 (by decide) ?_
          refine py_calli hw (va_runV (As := [.int v_1, .int 6]) (rest := [.int r_664, .int 3, .int v_1, .ref u]) G0 (c_X12_of l E G L_j2 f_j2 H_662.size u v_1 6 hG hWF Tu ⟨by omega, by omega⟩ ⟨by omega, by omega⟩) (cwV 2 G0.2.2.2.2 g_X12_springs_X12_of_287 rfl rfl rfl (by decide +kernel) ⟨(Nat.le_of_ble_eq_true rfl), (Nat.le_of_ble_eq_true rfl)⟩) (py_preV hw (C := RX12) (T := TX12) (N := 54) rfl hr_36) rfl rfl hl.1 rfl (lv_room (Nat.le_of_ble_eq_true rfl)) dX12_springs_31 ⟨(Nat.le_of_ble_eq_true rfl), (Nat.le_of_ble_eq_true rfl)⟩) (fun r_671 L_667 f_668 H_669 locs hp_670 hw => ?_)
          obtain ⟨en_672, en_673, rfl, rfl⟩ := hp_670
          have en_672 : r_671.toInt = nw f_j2 G u v_1.toInt (6 : Int) := en_672
          have en_673 : ((6 : Int) = 0 → 0 ≤ r_671.toInt ∧ r_671.toInt ≤ 20) ∧ ((6 : Int) = 1 → -1 ≤ r_671.toInt ∧ r_671.toInt ≤ 7) := en_673
          have br_671 := wf_free r_671
          refine lv_iadd G0.1 G0.2.1 dX12_springs_34 ?_
          refine lv_topi (fun x_674 ex_674 => ?_)
          first | have tx_674 := ti_add ex_674 (by omega -splitDisjunctions) (by omega -splitDisjunctions) | skip
          refine py_callv hw (va_runV (As := [.int v_1, .int 3, .int x_674]) (rest := []) G0 (c_X12_tell l E G L_j2 f_j2 H_669.size u v_1 3 x_674 hG hWF Tu ⟨by omega, by omega⟩ ⟨by omega, by omega⟩ (show ((3 : Int32).toInt = 0 → 0 ≤ x_674.toInt ∧ x_674.toInt ≤ 20) ∧ ((3 : Int32).toInt = 1 → -1 ≤ x_674.toInt ∧ x_674.toInt ≤ 7) by omega)) (cwV 3 G0.2.2.2.2 g_X12_springs_X12_tell_305 rfl rfl rfl (by decide +kernel) ⟨(Nat.le_of_ble_eq_true rfl), (Nat.le_of_ble_eq_true rfl)⟩) (py_preV hw (C := RX12) (T := TX12) (N := 54) rfl hr_36) rfl rfl hl.1 rfl (lv_room (Nat.le_of_ble_eq_true rfl)) dX12_springs_35 ⟨(Nat.le_of_ble_eq_true rfl), (Nat.le_of_ble_eq_true rfl)⟩) (fun L_675 f_676 H_677 locs hp_678 hw => ?_)
          obtain ⟨en_680, hWF, kp_681, fk_682⟩ := hp_678
          have en_680 : TL f_j2 f_676 G u v_1.toInt (3 : Int) x_674.toInt := en_680
          have hFK := hFK.trans fk_682 (by decide)
          have hKP := hKP.trans kp_681 (by decide) (by decide)
          have hr_36 := kp_at kp_681 hWF Tu (by decide) (by decide) (by decide) hr_36
          have tq_683 := mi_row hr_36 25 rfl
          refine lv_aload_n G0.1 G0.2.1 dX12_springs_38 rfl (lv_at hl 1 rfl) ?_
          refine lv_iload_n G0.1 G0.2.1 dX12_springs_39 rfl (lv_at hl 0 rfl) ?_
          refine lv_bipush (v := 6) G0.1 G0.2.1 dX12_springs_40 (by decide) ?_
          refine lv_iconst (v := 0) G0.1 G0.2.1 dX12_springs_42 (by decide) ?_
          refine py_callv hw (va_runV (As := [.int v_1, .int 6, .int 0]) (rest := []) G0 (c_X12_tell l E G L_675 f_676 H_677.size u v_1 6 0 hG hWF Tu ⟨by omega, by omega⟩ ⟨by omega, by omega⟩ (show ((6 : Int32).toInt = 0 → 0 ≤ (0 : Int32).toInt ∧ (0 : Int32).toInt ≤ 20) ∧ ((6 : Int32).toInt = 1 → -1 ≤ (0 : Int32).toInt ∧ (0 : Int32).toInt ≤ 7) by omega)) (cwV 3 G0.2.2.2.2 g_X12_springs_X12_tell_305 rfl rfl rfl (by decide +kernel) ⟨(Nat.le_of_ble_eq_true rfl), (Nat.le_of_ble_eq_true rfl)⟩) (py_preV hw (C := RX12) (T := TX12) (N := 54) rfl hr_36) rfl rfl hl.1 rfl (lv_room (Nat.le_of_ble_eq_true rfl)) dX12_springs_43 ⟨(Nat.le_of_ble_eq_true rfl), (Nat.le_of_ble_eq_true rfl)⟩) (fun L_684 f_685 H_686 locs hp_687 hw => ?_)
          obtain ⟨en_689, hWF, kp_690, fk_691⟩ := hp_687
          have en_689 : TL f_676 f_685 G u v_1.toInt (6 : Int) (0 : Int) := en_689
          have hFK := hFK.trans fk_691 (by decide)
          have hKP := hKP.trans kp_690 (by decide) (by decide)
          have hr_36 := kp_at kp_690 hWF Tu (by decide) (by decide) (by decide) hr_36
          have tq_692 := mi_row hr_36 25 rfl
          refine lv_aload_n G0.1 G0.2.1 dX12_springs_46 rfl (lv_at hl 1 rfl) ?_
          refine lv_iload_n G0.1 G0.2.1 dX12_springs_47 rfl (lv_at hl 0 rfl) ?_
          refine lv_iconst (v := 3) G0.1 G0.2.1 dX12_springs_48 (by decide) ?_
          refine lv_aload_n G0.1 G0.2.1 dX12_springs_49 rfl (lv_at hl 1 rfl) ?_
          refine lv_iload_n G0.1 G0.2.1 dX12_springs_50 rfl (lv_at hl 0 rfl) ?_
          refine py_calli hw (va_runV (As := [.int v_1]) (rest := [.int 3, .int v_1, .ref u]) G0 (c_X12_want l E G L_684 f_685 H_686.size u v_1 hG hWF Tu ⟨by omega, by omega⟩) (cwV 1 G0.2.2.2.2 g_X12_springs_X12_want_351 rfl rfl rfl (by decide +kernel) ⟨(Nat.le_of_ble_eq_true rfl), (Nat.le_of_ble_eq_true rfl)⟩) (py_preV hw (C := RX12) (T := TX12) (N := 54) rfl hr_36) rfl rfl hl.1 rfl (lv_room (Nat.le_of_ble_eq_true rfl)) dX12_springs_51 ⟨(Nat.le_of_ble_eq_true rfl), (Nat.le_of_ble_eq_true rfl)⟩) (fun r_697 L_693 f_694 H_695 locs hp_696 hw => ?_)
          obtain ⟨b_700, en_698, en_699, rfl, rfl⟩ := hp_696
          refine lv_aload_n G0.1 G0.2.1 dX12_springs_54 rfl (lv_at hl 1 rfl) ?_
          refine lv_iload_n G0.1 G0.2.1 dX12_springs_55 rfl (lv_at hl 0 rfl) ?_
          refine lv_iconst (v := 1) G0.1 G0.2.1 dX12_springs_56 (by decide) ?_
          refine py_calli hw (va_runV (As := [.int v_1, .int 1]) (rest := [.int r_697, .int 3, .int v_1, .ref u]) G0 (c_X12_of l E G L_684 f_685 H_695.size u v_1 1 hG hWF Tu ⟨by omega, by omega⟩ ⟨by omega, by omega⟩) (cwV 2 G0.2.2.2.2 g_X12_springs_X12_of_287 rfl rfl rfl (by decide +kernel) ⟨(Nat.le_of_ble_eq_true rfl), (Nat.le_of_ble_eq_true rfl)⟩) (py_preV hw (C := RX12) (T := TX12) (N := 54) rfl hr_36) rfl rfl hl.1 rfl (lv_room (Nat.le_of_ble_eq_true rfl)) dX12_springs_57 ⟨(Nat.le_of_ble_eq_true rfl), (Nat.le_of_ble_eq_true rfl)⟩) (fun r_705 L_701 f_702 H_703 locs hp_704 hw => ?_)
          obtain ⟨en_706, en_707, rfl, rfl⟩ := hp_704
          have en_706 : r_705.toInt = nw f_685 G u v_1.toInt (1 : Int) := en_706
          have en_707 : ((1 : Int) = 0 → 0 ≤ r_705.toInt ∧ r_705.toInt ≤ 20) ∧ ((1 : Int) = 1 → -1 ≤ r_705.toInt ∧ r_705.toInt ≤ 7) := en_707
          have br_705 := wf_free r_705
          refine lv_isub G0.1 G0.2.1 dX12_springs_60 ?_
          refine lv_topi (fun x_708 ex_708 => ?_)
          first | have tx_708 := ti_sub ex_708 (by omega -splitDisjunctions) (by omega -splitDisjunctions) | skip
          refine py_callv hw (va_runV (As := [.int v_1, .int 3, .int x_708]) (rest := []) G0 (c_X12_tell l E G L_684 f_685 H_703.size u v_1 3 x_708 hG hWF Tu ⟨by omega, by omega⟩ ⟨by omega, by omega⟩ (show ((3 : Int32).toInt = 0 → 0 ≤ x_708.toInt ∧ x_708.toInt ≤ 20) ∧ ((3 : Int32).toInt = 1 → -1 ≤ x_708.toInt ∧ x_708.toInt ≤ 7) by omega)) (cwV 3 G0.2.2.2.2 g_X12_springs_X12_tell_305 rfl rfl rfl (by decide +kernel) ⟨(Nat.le_of_ble_eq_true rfl), (Nat.le_of_ble_eq_true rfl)⟩) (py_preV hw (C := RX12) (T := TX12) (N := 54) rfl hr_36) rfl rfl hl.1 rfl (lv_room (Nat.le_of_ble_eq_true rfl)) dX12_springs_61 ⟨(Nat.le_of_ble_eq_true rfl), (Nat.le_of_ble_eq_true rfl)⟩) (fun L_709 f_710 H_711 locs hp_712 hw => ?_)
          obtain ⟨en_714, hWF, kp_715, fk_716⟩ := hp_712
          have en_714 : TL f_685 f_710 G u v_1.toInt (3 : Int) x_708.toInt := en_714
          have hFK := hFK.trans fk_716 (by decide)
          have hKP := hKP.trans kp_715 (by decide) (by decide)
          have hr_36 := kp_at kp_715 hWF Tu (by decide) (by decide) (by decide) hr_36
          have tq_717 := mi_row hr_36 25 rfl
          obtain ⟨x_718, ex_718⟩ : ∃ y : Int32, y = v_1 + 1 := ⟨_, rfl⟩
          first | have tx_718 := ti_add ex_718 (by omega -splitDisjunctions) (by omega -splitDisjunctions) | skip
          refine lv_iinc (v := x_718) (lv' := [(1, .int x_718), (0, .ref u)]) G0.1 G0.2.1 dX12_springs_64 hl (k := 0) rfl (show _ + (1 : Int32) = _ from ex_718.symm) (by decide) rfl (fun ls hl => ?_)
          refine lv_goto (tgt := 2) G0.1 G0.2.1 dX12_springs_67 (by decide) ?_
          exact ih_2 ((2147483647 - x_718.toInt).toNat) (by omega) x_718 L_709 f_710 _ _ ls rfl ⟨by omega, by omega⟩ hWF hKP hFK hw (lv_sub hl [0, 1] rfl)
  exact lo_2 _ 0 L f _ _ ls rfl ⟨by omega, by omega⟩ hWF hKP hFK hw (lv_sub hl [0, 1] rfl)

def w_X12_spring : List Cond := .code yX12_spring cX12_spring 1 (some .int) :: ([Cond.fieldLink RX12 290 "HeadYearModel" "families" "I", Cond.fieldLink RX12 312 "HeadYearModel" "buys" "I", Cond.methodLink RX12 379 yX12_springs, Cond.instanceMethod yX12_springs, Cond.selects RX12 yX12_springs yX12_springs, Cond.initialized RX12] ++ (u_ws RX12 TX12 54 ++ (w_X12_springs ++ ([]))))
theorem in_X12_spring_X12 : ∀ w ∈ u_ws RX12 TX12 54, w ∈ w_X12_spring := fun _ h => List.mem_cons_of_mem _ (List.mem_append_right _ (List.mem_append_left _ h))
theorem gg_X12_spring_X12_springs : GoodIn w_X12_spring w_X12_springs := goodIn_sub (fun _ h => List.mem_cons_of_mem _ (List.mem_append_right _ (List.mem_append_right _ (List.mem_append_left _ h)))) (by decide +kernel)
theorem g_X12_spring_X12_springs_379 : GoodIn w_X12_spring (wsV RX12 379 RX12 yX12_springs w_X12_springs) := goodIn_app (goodIn_of _ (by decide +kernel)) gg_X12_spring_X12_springs
set_option maxHeartbeats 4000000 in
set_option maxRecDepth 100000 in
theorem c_X12_spring (l : Launch) (E : py_E) (G : wf_G) (L : List Nat) (f : py_F) (sz : Nat) (u : Nat) (hG : GT G) (hWF : WF E G L f) (Tu : G.1 u = 13) : Met l yX12_spring w_X12_spring ({ frames := 8, cells := 0, slots := 0, locals := 180 }) (py_Pc E [.ref u] L f sz) (py_Qi E L f sz (fun _ L1 f1 => WF E G L1 f1 ∧ KP G [55, 59, 60, 13] false f f1 ∧ FK [30, 43] f f1 u)) 0 0 (va_A (va_pl L f) sz) := by
  refine Met.ofW (cc := cX12_spring) (maxL := 1) (ret := (some .int)) (by decide) rfl ?_
  intro p e s m args below meth c s₁ B hml hv
  obtain ⟨rfl, rfl, hw⟩ := py_start hv
  have G0 : CallFix p m c cX12_spring 1 s _ w_X12_spring RX12 := ⟨B.exec, B.bytes, hml, findClass_of_methodNamed B.named, atoms_spec (ws := w_X12_spring) B.pre⟩
  have hr := B.returns
  have hlk := B.notSynchronized
  have kcm1 : (-1 : Int32).toInt = -1 := rfl
  have kc0 : (0 : Int32).toInt = 0 := rfl
  have kc1 : (1 : Int32).toInt = 1 := rfl
  have hl := lv_entry ([.ref u]) (n := 1) (Nat.le_of_ble_eq_true rfl)
  rw [lg_entry_eq]
  generalize (lg_sl ([.ref u]) ++ List.replicate (1 - (lg_sl ([.ref u])).length) Slot.unset).toArray = ls at hl ⊢
  have hl : lv_has ls 1 [(0, .ref u)] := hl
  have hFK : FK [30, 43] f f u := FK.refl
  have hKP : KP G [55, 59, 60, 13] false f f := KP.refl
  refine lv_aload_n G0.1 G0.2.1 dX12_spring_0 rfl (lv_at hl 0 rfl) ?_
  obtain ⟨v_1, v_2, v_3, v_4, v_5, v_6, v_7, v_8, v_9, v_10, v_11, v_12, y_13, v_14, v_15, v_16, v_17, v_18, y_19, v_20, y_21, v_22, hr_35, b_23, b_24, b_25, b_26, b_27, b_28, b_29, b_30, b_31, b_32, b_33, b_34⟩ := wg_12 hWF Tu
  refine py_get (C := RX12) (T := TX12) (N := 54) (k := 25) (v := .int v_11) G0 hw in_X12_spring_X12 rfl hr_35 (by decide) (by decide +kernel) rfl dX12_spring_1 ?_
  refine lv_if_ne (tgt := 9) G0.1 G0.2.1 dX12_spring_4 (by decide) (fun c_36 => ?_) (fun c_36 => ?_)
  · skip
    have tc_36 := ti_ne c_36
    refine lv_aload_n G0.1 G0.2.1 dX12_spring_9 rfl (lv_at hl 0 rfl) ?_
    refine lv_iconst (v := 0) G0.1 G0.2.1 dX12_spring_10 (by decide) ?_
    refine py_put (C := RX12) (T := TX12) (N := 54) (k := 43) (v := .int 0) (fs' := [.int v_1, .ref (G.2 u 1), .int v_2, .int v_3, .int v_4, .int v_5, .ref (G.2 u 6), .ref (G.2 u 7), .ref (G.2 u 8), .ref (G.2 u 9), .ref (G.2 u 10), .ref (G.2 u 11), .ref (G.2 u 12), .int v_6, .int v_7, .ref (G.2 u 15), .ref (G.2 u 16), .ref (G.2 u 17), .ref (G.2 u 18), .int v_8, .int v_9, .ref (G.2 u 21), .ref (G.2 u 22), .ref (G.2 u 23), .int v_10, .int v_11, .ref (G.2 u 26), .ref (G.2 u 27), .ref (G.2 u 28), .int v_12, .long y_13, .int v_14, .int v_15, .int v_16, .int v_17, .ref (G.2 u 35), .ref (G.2 u 36), .ref (G.2 u 37), .ref (G.2 u 38), .ref (G.2 u 39), .ref (G.2 u 40), .ref (G.2 u 41), .ref (G.2 u 42), .int 0, .ref (G.2 u 44), .ref (G.2 u 45), .ref (G.2 u 46), .ref (G.2 u 47), .long y_19, .ref (G.2 u 49), .ref (G.2 u 50), .int v_20, .long y_21, .int v_22]) (ty0 := tyX12) G0 hw tyX12_ok nmX12 in_X12_spring_X12 rfl hr_35 (by decide) (by decide +kernel) rfl rfl rfl rfl (Nat.le_of_ble_eq_true rfl) rfl dX12_spring_11 (fun f_37 H_38 locs h_39 x_40 hw => ?_)
    have hFK := hFK.put hr_35 h_39 43 (by decide) rfl
    have hKP := hKP.upd hWF x_40 Tu (Or.inl (by decide))
    have hWF := wf_upd hWF h_39 x_40 (by rw [Tu]; exact ⟨v_1, v_2, v_3, v_4, v_5, v_6, v_7, v_8, v_9, v_10, v_11, v_12, y_13, v_14, v_15, v_16, v_17, 0, y_19, v_20, y_21, v_22, rfl, ⟨by omega, by omega⟩, ⟨by omega, by omega⟩, ⟨by omega, by omega⟩, ⟨by omega, by omega⟩, ⟨by omega, by omega⟩, ⟨by omega, by omega⟩, ⟨by omega, by omega⟩, ⟨by omega, by omega⟩, ⟨by omega, by omega⟩, ⟨by omega, by omega⟩, ⟨by omega, by omega⟩, ⟨by omega, by omega⟩⟩)
    refine lv_aload_n G0.1 G0.2.1 dX12_spring_14 rfl (lv_at hl 0 rfl) ?_
    refine py_calli hw (va_runV (As := []) (rest := []) G0 (c_X12_springs l E G L f_37 H_38.size u hG hWF Tu) (cwV 0 G0.2.2.2.2 g_X12_spring_X12_springs_379 rfl rfl rfl (by decide +kernel) ⟨(Nat.le_of_ble_eq_true rfl), (Nat.le_of_ble_eq_true rfl)⟩) (py_preV hw (C := RX12) (T := TX12) (N := 54) rfl h_39) rfl rfl hl.1 rfl (lv_room (Nat.le_of_ble_eq_true rfl)) dX12_spring_15 ⟨(Nat.le_of_ble_eq_true rfl), (Nat.le_of_ble_eq_true rfl)⟩) (fun r_45 L_41 f_42 H_43 locs hp_44 hw => ?_)
    obtain ⟨hWF, kp_46, fk_47⟩ := hp_44
    have hFK := hFK.trans fk_47 (by decide)
    have hKP := hKP.trans kp_46 (by decide) (by decide)
    obtain ⟨v_48, hr_49⟩ := fk_30 hWF Tu fk_47 h_39
    have br_45 := wf_free r_45
    exact py_iret G0 hr rfl hlk hw ⟨hWF, hKP, hFK⟩ dX12_spring_18
  · skip
    have tc_36 := ti_eq c_36
    refine lv_iconst (v := (-1)) G0.1 G0.2.1 dX12_spring_7 (by decide) ?_
    exact py_iret G0 hr rfl hlk hw ⟨hWF, hKP, hFK⟩ dX12_spring_8
