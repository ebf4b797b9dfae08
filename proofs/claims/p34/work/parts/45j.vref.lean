def ImpP (A B : Prop) : Prop := A → B
theorem dX12_readValley_0 : decode cX12_readValley 0 = .ok (.aload_n 0, 1) := by decide +kernel
theorem dX12_readValley_1 : decode cX12_readValley 1 = .ok (.iconst 0, 1) := by decide +kernel
theorem dX12_readValley_2 : decode cX12_readValley 2 = .ok (.putfield 127, 3) := by decide +kernel
theorem dX12_readValley_5 : decode cX12_readValley 5 = .ok (.aload_n 0, 1) := by decide +kernel
theorem dX12_readValley_6 : decode cX12_readValley 6 = .ok (.iconst (-1), 1) := by decide +kernel
theorem dX12_readValley_7 : decode cX12_readValley 7 = .ok (.putfield 134, 3) := by decide +kernel
theorem dX12_readValley_10 : decode cX12_readValley 10 = .ok (.aload_n 0, 1) := by decide +kernel
theorem dX12_readValley_11 : decode cX12_readValley 11 = .ok (.iconst 0, 1) := by decide +kernel
theorem dX12_readValley_12 : decode cX12_readValley 12 = .ok (.putfield 264, 3) := by decide +kernel
theorem dX12_readValley_15 : decode cX12_readValley 15 = .ok (.aload_n 0, 1) := by decide +kernel
theorem dX12_readValley_16 : decode cX12_readValley 16 = .ok (.iconst 0, 1) := by decide +kernel
theorem dX12_readValley_17 : decode cX12_readValley 17 = .ok (.putfield 267, 3) := by decide +kernel
theorem dX12_readValley_20 : decode cX12_readValley 20 = .ok (.iconst 1, 1) := by decide +kernel
theorem dX12_readValley_21 : decode cX12_readValley 21 = .ok (.istore_n 1, 1) := by decide +kernel
theorem dX12_readValley_22 : decode cX12_readValley 22 = .ok (.iload_n 1, 1) := by decide +kernel
theorem dX12_readValley_23 : decode cX12_readValley 23 = .ok (.ifCond .eq 59, 3) := by decide +kernel
theorem dX12_readValley_26 : decode cX12_readValley 26 = .ok (.aload_n 0, 1) := by decide +kernel
theorem dX12_readValley_27 : decode cX12_readValley 27 = .ok (.getfield 134, 3) := by decide +kernel
theorem dX12_readValley_30 : decode cX12_readValley 30 = .ok (.iconst (-1), 1) := by decide +kernel
theorem dX12_readValley_31 : decode cX12_readValley 31 = .ok (.if_icmp .ne 51, 3) := by decide +kernel
theorem dX12_readValley_34 : decode cX12_readValley 34 = .ok (.aload_n 0, 1) := by decide +kernel
theorem dX12_readValley_35 : decode cX12_readValley 35 = .ok (.invokevirtual 274, 3) := by decide +kernel
theorem dX12_readValley_38 : decode cX12_readValley 38 = .ok (.aload_n 0, 1) := by decide +kernel
theorem dX12_readValley_39 : decode cX12_readValley 39 = .ok (.getfield 134, 3) := by decide +kernel
theorem dX12_readValley_42 : decode cX12_readValley 42 = .ok (.iconst (-1), 1) := by decide +kernel
theorem dX12_readValley_43 : decode cX12_readValley 43 = .ok (.if_icmp .ne 16, 3) := by decide +kernel
theorem dX12_readValley_46 : decode cX12_readValley 46 = .ok (.aload_n 0, 1) := by decide +kernel
theorem dX12_readValley_47 : decode cX12_readValley 47 = .ok (.invokevirtual 146, 3) := by decide +kernel
theorem dX12_readValley_50 : decode cX12_readValley 50 = .ok (.bipush 59, 2) := by decide +kernel
theorem dX12_readValley_52 : decode cX12_readValley 52 = .ok (.if_icmp .ne 7, 3) := by decide +kernel
theorem dX12_readValley_55 : decode cX12_readValley 55 = .ok (.iconst 1, 1) := by decide +kernel
theorem dX12_readValley_56 : decode cX12_readValley 56 = .ok (.goto 4, 3) := by decide +kernel
theorem dX12_readValley_59 : decode cX12_readValley 59 = .ok (.iconst 0, 1) := by decide +kernel
theorem dX12_readValley_60 : decode cX12_readValley 60 = .ok (.istore_n 1, 1) := by decide +kernel
theorem dX12_readValley_61 : decode cX12_readValley 61 = .ok (.aload_n 0, 1) := by decide +kernel
theorem dX12_readValley_62 : decode cX12_readValley 62 = .ok (.dup, 1) := by decide +kernel
theorem dX12_readValley_63 : decode cX12_readValley 63 = .ok (.getfield 127, 3) := by decide +kernel
theorem dX12_readValley_66 : decode cX12_readValley 66 = .ok (.iload_n 1, 1) := by decide +kernel
theorem dX12_readValley_67 : decode cX12_readValley 67 = .ok (.ifCond .eq 7, 3) := by decide +kernel
theorem dX12_readValley_70 : decode cX12_readValley 70 = .ok (.iconst 1, 1) := by decide +kernel
theorem dX12_readValley_71 : decode cX12_readValley 71 = .ok (.goto 4, 3) := by decide +kernel
theorem dX12_readValley_74 : decode cX12_readValley 74 = .ok (.iconst 0, 1) := by decide +kernel
theorem dX12_readValley_75 : decode cX12_readValley 75 = .ok (.iadd, 1) := by decide +kernel
theorem dX12_readValley_76 : decode cX12_readValley 76 = .ok (.putfield 127, 3) := by decide +kernel
theorem dX12_readValley_79 : decode cX12_readValley 79 = .ok (.goto (-57), 3) := by decide +kernel
theorem dX12_readValley_82 : decode cX12_readValley 82 = .ok (.aload_n 0, 1) := by decide +kernel
theorem dX12_readValley_83 : decode cX12_readValley 83 = .ok (.getfield 134, 3) := by decide +kernel
theorem dX12_readValley_86 : decode cX12_readValley 86 = .ok (.iconst (-1), 1) := by decide +kernel
theorem dX12_readValley_87 : decode cX12_readValley 87 = .ok (.if_icmp .ne 37, 3) := by decide +kernel
theorem dX12_readValley_90 : decode cX12_readValley 90 = .ok (.aload_n 0, 1) := by decide +kernel
theorem dX12_readValley_91 : decode cX12_readValley 91 = .ok (.invokevirtual 146, 3) := by decide +kernel
theorem dX12_readValley_94 : decode cX12_readValley 94 = .ok (.iconst (-1), 1) := by decide +kernel
theorem dX12_readValley_95 : decode cX12_readValley 95 = .ok (.if_icmp .ne 25, 3) := by decide +kernel
theorem dX12_readValley_98 : decode cX12_readValley 98 = .ok (.aload_n 0, 1) := by decide +kernel
theorem dX12_readValley_99 : decode cX12_readValley 99 = .ok (.getfield 264, 3) := by decide +kernel
theorem dX12_readValley_102 : decode cX12_readValley 102 = .ok (.iconst 2, 1) := by decide +kernel
theorem dX12_readValley_103 : decode cX12_readValley 103 = .ok (.if_icmp .lt 17, 3) := by decide +kernel
theorem dX12_readValley_106 : decode cX12_readValley 106 = .ok (.aload_n 0, 1) := by decide +kernel
theorem dX12_readValley_107 : decode cX12_readValley 107 = .ok (.getfield 267, 3) := by decide +kernel
theorem dX12_readValley_110 : decode cX12_readValley 110 = .ok (.ifCond .eq 10, 3) := by decide +kernel
theorem dX12_readValley_113 : decode cX12_readValley 113 = .ok (.aload_n 0, 1) := by decide +kernel
theorem dX12_readValley_114 : decode cX12_readValley 114 = .ok (.invokevirtual 277, 3) := by decide +kernel
theorem dX12_readValley_117 : decode cX12_readValley 117 = .ok (.ifCond .ne 7, 3) := by decide +kernel
theorem dX12_readValley_120 : decode cX12_readValley 120 = .ok (.aload_n 0, 1) := by decide +kernel
theorem dX12_readValley_121 : decode cX12_readValley 121 = .ok (.invokevirtual 143, 3) := by decide +kernel
theorem dX12_readValley_124 : decode cX12_readValley 124 = .ok (.aload_n 0, 1) := by decide +kernel
theorem dX12_readValley_125 : decode cX12_readValley 125 = .ok (.getfield 134, 3) := by decide +kernel
theorem dX12_readValley_128 : decode cX12_readValley 128 = .ok (.ireturn, 1) := by decide +kernel
def w_X12_readValley : List Cond := .code yX12_readValley cX12_readValley 2 (some .int) :: ([Cond.fieldLink RX12 127 "HeadYearModel" "at" "I", Cond.fieldLink RX12 134 "HeadYearModel" "wrong" "I", Cond.fieldLink RX12 264 "HeadYearModel" "readLevels" "I", Cond.fieldLink RX12 267 "HeadYearModel" "readFamilies" "I", Cond.methodLink RX12 146 yX12_look, Cond.instanceMethod yX12_look, Cond.selects RX12 yX12_look yX12_look, Cond.initialized RX12, Cond.methodLink RX12 143 yX12_bad, Cond.instanceMethod yX12_bad, Cond.selects RX12 yX12_bad yX12_bad, Cond.methodLink RX12 277 yX12_areHoused, Cond.instanceMethod yX12_areHoused, Cond.selects RX12 yX12_areHoused yX12_areHoused, Cond.methodLink RX12 274 yX12_clauseText, Cond.instanceMethod yX12_clauseText, Cond.selects RX12 yX12_clauseText yX12_clauseText] ++ (u_ws RX12 TX12 54 ++ (w_X12_look ++ (w_X12_bad ++ (w_X12_areHoused ++ (w_X12_clauseText ++ ([])))))))
theorem in_X12_readValley_X12 : ∀ w ∈ u_ws RX12 TX12 54, w ∈ w_X12_readValley := fun _ h => List.mem_cons_of_mem _ (List.mem_append_right _ (List.mem_append_left _ h))
theorem gg_X12_readValley_X12_look : GoodIn w_X12_readValley w_X12_look := goodIn_sub (fun _ h => List.mem_cons_of_mem _ (List.mem_append_right _ (List.mem_append_right _ (List.mem_append_left _ h)))) (by decide +kernel)
theorem gg_X12_readValley_X12_bad : GoodIn w_X12_readValley w_X12_bad := goodIn_sub (fun _ h => List.mem_cons_of_mem _ (List.mem_append_right _ (List.mem_append_right _ (List.mem_append_right _ (List.mem_append_left _ h))))) (by decide +kernel)
theorem gg_X12_readValley_X12_areHoused : GoodIn w_X12_readValley w_X12_areHoused := goodIn_sub (fun _ h => List.mem_cons_of_mem _ (List.mem_append_right _ (List.mem_append_right _ (List.mem_append_right _ (List.mem_append_right _ (List.mem_append_left _ h)))))) (by decide +kernel)
theorem gg_X12_readValley_X12_clauseText : GoodIn w_X12_readValley w_X12_clauseText := goodIn_sub (fun _ h => List.mem_cons_of_mem _ (List.mem_append_right _ (List.mem_append_right _ (List.mem_append_right _ (List.mem_append_right _ (List.mem_append_right _ (List.mem_append_left _ h))))))) (by decide +kernel)
theorem g_X12_readValley_X12_areHoused_277 : GoodIn w_X12_readValley (wsV RX12 277 RX12 yX12_areHoused w_X12_areHoused) := goodIn_app (goodIn_of _ (by decide +kernel)) gg_X12_readValley_X12_areHoused
theorem g_X12_readValley_X12_bad_143 : GoodIn w_X12_readValley (wsV RX12 143 RX12 yX12_bad w_X12_bad) := goodIn_app (goodIn_of _ (by decide +kernel)) gg_X12_readValley_X12_bad
theorem g_X12_readValley_X12_clauseText_274 : GoodIn w_X12_readValley (wsV RX12 274 RX12 yX12_clauseText w_X12_clauseText) := goodIn_app (goodIn_of _ (by decide +kernel)) gg_X12_readValley_X12_clauseText
theorem g_X12_readValley_X12_look_146 : GoodIn w_X12_readValley (wsV RX12 146 RX12 yX12_look w_X12_look) := goodIn_app (goodIn_of _ (by decide +kernel)) gg_X12_readValley_X12_look
theorem fk_3_4_19_20 {E : py_E} {G : wf_G} {L L1 : List Nat} {f f1 : py_F} {m : Nat} (hWF : WF E G L1 f1) (Tm : G.1 m = 13) (h : FK [3, 4, 19, 20] f f1 m) {v0 : Int32} {v2 : Int32} {v3 : Int32} {v4 : Int32} {v5 : Int32} {v13 : Int32} {v14 : Int32} {v19 : Int32} {v20 : Int32} {v24 : Int32} {v25 : Int32} {v29 : Int32} {v30 : Int64} {v31 : Int32} {v32 : Int32} {v33 : Int32} {v34 : Int32} {v43 : Int32} {v48 : Int64} {v51 : Int32} {v52 : Int64} {v53 : Int32} (hr : py_at L f m (.inr (12, [.int v0, .ref (G.2 m 1), .int v2, .int v3, .int v4, .int v5, .ref (G.2 m 6), .ref (G.2 m 7), .ref (G.2 m 8), .ref (G.2 m 9), .ref (G.2 m 10), .ref (G.2 m 11), .ref (G.2 m 12), .int v13, .int v14, .ref (G.2 m 15), .ref (G.2 m 16), .ref (G.2 m 17), .ref (G.2 m 18), .int v19, .int v20, .ref (G.2 m 21), .ref (G.2 m 22), .ref (G.2 m 23), .int v24, .int v25, .ref (G.2 m 26), .ref (G.2 m 27), .ref (G.2 m 28), .int v29, .long v30, .int v31, .int v32, .int v33, .int v34, .ref (G.2 m 35), .ref (G.2 m 36), .ref (G.2 m 37), .ref (G.2 m 38), .ref (G.2 m 39), .ref (G.2 m 40), .ref (G.2 m 41), .ref (G.2 m 42), .int v43, .ref (G.2 m 44), .ref (G.2 m 45), .ref (G.2 m 46), .ref (G.2 m 47), .long v48, .ref (G.2 m 49), .ref (G.2 m 50), .int v51, .long v52, .int v53]))) : ∃ (w3 : Int32) (w4 : Int32) (w19 : Int32) (w20 : Int32), py_at L1 f1 m (.inr (12, [.int v0, .ref (G.2 m 1), .int v2, .int w3, .int w4, .int v5, .ref (G.2 m 6), .ref (G.2 m 7), .ref (G.2 m 8), .ref (G.2 m 9), .ref (G.2 m 10), .ref (G.2 m 11), .ref (G.2 m 12), .int v13, .int v14, .ref (G.2 m 15), .ref (G.2 m 16), .ref (G.2 m 17), .ref (G.2 m 18), .int w19, .int w20, .ref (G.2 m 21), .ref (G.2 m 22), .ref (G.2 m 23), .int v24, .int v25, .ref (G.2 m 26), .ref (G.2 m 27), .ref (G.2 m 28), .int v29, .long v30, .int v31, .int v32, .int v33, .int v34, .ref (G.2 m 35), .ref (G.2 m 36), .ref (G.2 m 37), .ref (G.2 m 38), .ref (G.2 m 39), .ref (G.2 m 40), .ref (G.2 m 41), .ref (G.2 m 42), .int v43, .ref (G.2 m 44), .ref (G.2 m 45), .ref (G.2 m 46), .ref (G.2 m 47), .long v48, .ref (G.2 m 49), .ref (G.2 m 50), .int v51, .long v52, .int v53])) ∧ (0 ≤ w19.toInt ∧ w19.toInt ≤ 8) ∧ (0 ≤ w20.toInt ∧ w20.toInt ≤ 10) := by
  obtain ⟨w0, w2, w3, w4, w5, w13, w14, w19, w20, w24, w25, w29, w30, w31, w32, w33, w34, w43, w48, w51, w52, w53, hr1, b2, b13, b14, b19, b20, b24, b25, b29, b31, b43, b51, b53⟩ := wg_12 hWF Tm
  have e0 : w0 = v0 := Value.int.inj (Option.some.inj (show some (Value.int w0) = some (Value.int v0) from fk_i h hr hr1 0 (by decide) (by decide)))
  subst e0
  have e2 : w2 = v2 := Value.int.inj (Option.some.inj (show some (Value.int w2) = some (Value.int v2) from fk_i h hr hr1 2 (by decide) (by decide)))
  subst e2
  have e5 : w5 = v5 := Value.int.inj (Option.some.inj (show some (Value.int w5) = some (Value.int v5) from fk_i h hr hr1 5 (by decide) (by decide)))
  subst e5
  have e13 : w13 = v13 := Value.int.inj (Option.some.inj (show some (Value.int w13) = some (Value.int v13) from fk_i h hr hr1 13 (by decide) (by decide)))
  subst e13
  have e14 : w14 = v14 := Value.int.inj (Option.some.inj (show some (Value.int w14) = some (Value.int v14) from fk_i h hr hr1 14 (by decide) (by decide)))
  subst e14
  have e24 : w24 = v24 := Value.int.inj (Option.some.inj (show some (Value.int w24) = some (Value.int v24) from fk_i h hr hr1 24 (by decide) (by decide)))
  subst e24
  have e25 : w25 = v25 := Value.int.inj (Option.some.inj (show some (Value.int w25) = some (Value.int v25) from fk_i h hr hr1 25 (by decide) (by decide)))
  subst e25
  have e29 : w29 = v29 := Value.int.inj (Option.some.inj (show some (Value.int w29) = some (Value.int v29) from fk_i h hr hr1 29 (by decide) (by decide)))
  subst e29
  have e30 : w30 = v30 := Value.long.inj (Option.some.inj (show some (Value.long w30) = some (Value.long v30) from fk_i h hr hr1 30 (by decide) (by decide)))
  subst e30
  have e31 : w31 = v31 := Value.int.inj (Option.some.inj (show some (Value.int w31) = some (Value.int v31) from fk_i h hr hr1 31 (by decide) (by decide)))
  subst e31
  have e32 : w32 = v32 := Value.int.inj (Option.some.inj (show some (Value.int w32) = some (Value.int v32) from fk_i h hr hr1 32 (by decide) (by decide)))
  subst e32
  have e33 : w33 = v33 := Value.int.inj (Option.some.inj (show some (Value.int w33) = some (Value.int v33) from fk_i h hr hr1 33 (by decide) (by decide)))
  subst e33
  have e34 : w34 = v34 := Value.int.inj (Option.some.inj (show some (Value.int w34) = some (Value.int v34) from fk_i h hr hr1 34 (by decide) (by decide)))
  subst e34
  have e43 : w43 = v43 := Value.int.inj (Option.some.inj (show some (Value.int w43) = some (Value.int v43) from fk_i h hr hr1 43 (by decide) (by decide)))
  subst e43
  have e48 : w48 = v48 := Value.long.inj (Option.some.inj (show some (Value.long w48) = some (Value.long v48) from fk_i h hr hr1 48 (by decide) (by decide)))
  subst e48
  have e51 : w51 = v51 := Value.int.inj (Option.some.inj (show some (Value.int w51) = some (Value.int v51) from fk_i h hr hr1 51 (by decide) (by decide)))
  subst e51
  have e52 : w52 = v52 := Value.long.inj (Option.some.inj (show some (Value.long w52) = some (Value.long v52) from fk_i h hr hr1 52 (by decide) (by decide)))
  subst e52
  have e53 : w53 = v53 := Value.int.inj (Option.some.inj (show some (Value.int w53) = some (Value.int v53) from fk_i h hr hr1 53 (by decide) (by decide)))
  subst e53
  exact ⟨w3, w4, w19, w20, hr1, b19, b20⟩
set_option maxHeartbeats 4000000 in
set_option maxRecDepth 100000 in
theorem ol_X12_readValley_82 {p : Program} {l : Launch} {e : Env} {s : State} {m : MethodId} {below : List Frame} {meth : Method} {c : Code} {E : py_E} {G : wf_G} {L : List Nat} {f : py_F} (hG : GT G) (u : Nat) (gb : rs_B) (nb : Int) (Tu : G.1 u = 13) (G0 : CallFix p m c cX12_readValley 2 s ([.ref u] : List Value).toArray w_X12_readValley RX12) (hr : meth.sig.returnType = (some .int)) (hlk : meth.locks = false) (hp0 : mi f u 2 = nb) (hq1 : rs_nn gb nb) : ∀ (L_j82 : List Nat) (f_j82 : py_F) (H_j82 : Heap) (locs : List Loc) (ls : Array Slot), WF E G L_j82 f_j82 → KP G [50, 51, 13] false f f_j82 → AG f_j82 (G.2 u 1) gb nb → FK [3, 4, 19, 20] f f_j82 u → ImpP (mi f_j82 u 4 = -1) (RFm f_j82 G u (mi f_j82 u 20)) → (mi f_j82 u 4 = -1 → CE gb nb (rv_go gb nb rv_s0 0) (mi f_j82 u 3) ∧ RD f_j82 G u (rv_go gb nb rv_s0 0).2) → (mi f_j82 u 4 ≠ -1 → (rv_go gb nb rv_s0 0).1.1 = 0 ∧ mi f_j82 u 4 = (rv_go gb nb rv_s0 0).1.2) → (0 ≤ mi f_j82 u 3 ∧ mi f_j82 u 2 = mi f u 2 ∧ mi f_j82 u 3 ≤ mi f u 2) → py_W E (va_A (va_pl L f) s.heap.size) s L_j82 f_j82 H_j82 locs → lv_has ls 2 [(0, .ref u)] → W p l e (headSpec w_X12_readValley ({ frames := 5, cells := 0, slots := 0, locals := 111 })).room s m ([.ref u] : List Value).toArray below meth c H_j82 locs 0 0 (MQ below (py_Qi E L f s.heap.size (fun r L1 f1 => (r.toInt = -1 → RFm f1 G u (mi f1 u 20)) ∧ (RVF gb nb r.toInt) ∧ (r.toInt = -1 → 1 ≤ mi f1 u 20) ∧ (r.toInt = -1 → mi f1 u 20 = rv_fm gb nb) ∧ WF E G L1 f1 ∧ KP G [50, 51, 13] false f f1 ∧ FK [3, 4, 19, 20] f f1 u)) ([.ref u] : List Value).toArray s 0 0 (va_A (va_pl L f) s.heap.size)) (F0 m 82 ls []) := by
  have kcm1 : (-1 : Int32).toInt = -1 := rfl
  have kc0 : (0 : Int32).toInt = 0 := rfl
  have kc1 : (1 : Int32).toInt = 1 := rfl
  have kc2 : (2 : Int32).toInt = 2 := rfl
  intro L_j82 f_j82 H_j82 locs ls hWF hKP hMB hFK hRF jv0 jv1 jv2 hw hl
  refine lv_aload_n G0.1 G0.2.1 dX12_readValley_82 rfl (lv_at hl 0 rfl) ?_
  obtain ⟨v_78, v_79, v_80, v_81, v_82, v_83, v_84, v_85, v_86, v_87, v_88, v_89, y_90, v_91, v_92, v_93, v_94, v_95, y_96, v_97, y_98, v_99, hr_112, b_100, b_101, b_102, b_103, b_104, b_105, b_106, b_107, b_108, b_109, b_110, b_111⟩ := wg_12 hWF Tu
  have tq_113 := mi_row hr_112 2 rfl
  have tq_114 := mi_row hr_112 3 rfl
  have bv_80 := wf_free v_80
  have tq_115 := mi_row hr_112 4 rfl
  have bv_81 := wf_free v_81
  have tq_116 := mi_row hr_112 19 rfl
  have tq_117 := mi_row hr_112 20 rfl
  refine py_get (C := RX12) (T := TX12) (N := 54) (k := 4) (v := .int v_81) G0 hw in_X12_readValley_X12 rfl hr_112 (by decide) (by decide +kernel) rfl dX12_readValley_83 ?_
  refine lv_iconst (v := (-1)) G0.1 G0.2.1 dX12_readValley_86 (by decide) ?_
  refine lv_icmp_ne (tgt := 124) G0.1 G0.2.1 dX12_readValley_87 (by decide) (fun c_118 => ?_) (fun c_118 => ?_)
  · skip
    have tc_118 := ti_ne c_118
    refine lv_aload_n G0.1 G0.2.1 dX12_readValley_124 rfl (lv_at hl 0 rfl) ?_
    refine py_get (C := RX12) (T := TX12) (N := 54) (k := 4) (v := .int v_81) G0 hw in_X12_readValley_X12 rfl hr_112 (by decide) (by decide +kernel) rfl dX12_readValley_125 ?_
    exact py_iret G0 hr rfl hlk hw ⟨(fun hr => hRF (by omega)), (RVF_w0 (by have hz := jv1 (by omega); exact ⟨hz.1, by omega⟩)), (by first | omega | (intro q; omega)), (fun hr => by first | exact (hRE (by omega)).1.2 | (exfalso; omega)), hWF, hKP, hFK⟩ dX12_readValley_128
  · skip
    have tc_118 := ti_eq c_118
    have hCE := jv0 (by omega)
    have hRE : ImpP (mi f_j82 u 4 = -1) (RD f_j82 G u (rv_go gb nb rv_s0 0).2) := fun _ => hCE.2
    have hRE1 := hCE.2.1
    clear jv0 jv1
    refine lv_aload_n G0.1 G0.2.1 dX12_readValley_90 rfl (lv_at hl 0 rfl) ?_
    refine py_calli hw (va_runV (As := []) (rest := []) G0 (c_X12_look l E G L_j82 f_j82 H_j82.size u gb nb (mi f_j82 u 3) hG hWF Tu (show 0 ≤ mi f_j82 u 3 ∧ mi f_j82 u 3 ≤ mi f_j82 u 2 by omega) (show mi f_j82 u 3 = (mi f_j82 u 3) by omega) (show mi f_j82 u 2 = nb ∧ 0 ≤ (mi f_j82 u 3) by omega) hMB) (cwV 0 G0.2.2.2.2 g_X12_readValley_X12_look_146 rfl rfl rfl (by decide +kernel) ⟨(Nat.le_of_ble_eq_true rfl), (Nat.le_of_ble_eq_true rfl)⟩) (py_preV hw (C := RX12) (T := TX12) (N := 54) rfl hr_112) rfl rfl hl.1 rfl (lv_room (Nat.le_of_ble_eq_true rfl)) dX12_readValley_91 ⟨(Nat.le_of_ble_eq_true rfl), (Nat.le_of_ble_eq_true rfl)⟩) (fun r_123 L_119 f_120 H_121 locs hp_122 hw => ?_)
    obtain ⟨en_124, en_125, en_126, en_127, hWF, kp_128, fk_129⟩ := hp_122
    have hMB := hMB.kp (kp_f kp_128 (wt12_1 hG Tu) (by decide) (by decide) (fun _ => by decide))
    have hRF : ImpP (mi f_120 u 4 = -1) (RFm f_120 G u (mi f_120 u 20)) := fun hw => (hRF (by first | (have hz := fk_mi fk_129 4 (by decide) (by decide); omega) | omega)).same (kp_f kp_128 (wt12_18 hG Tu) (by decide) (by decide) (fun _ => by decide)) (fk_mi fk_129 20 (by decide) (by decide))
    have hRE : ImpP (mi f_120 u 4 = -1) (RD f_120 G u (rv_go gb nb rv_s0 0).2) := fun hw => (hRE (by first | (have hz := fk_mi fk_129 4 (by decide) (by decide); omega) | omega)).same (fk_mi fk_129 19 (by decide) (by decide)) (fk_mi fk_129 20 (by decide) (by decide)) (kp_f kp_128 (wt12_17 hG Tu) (by decide) (by decide) (fun _ => by decide)) (kp_f kp_128 (wt12_18 hG Tu) (by decide) (by decide) (fun _ => by decide))
    have hFK := hFK.trans fk_129 (by decide)
    have hKP := hKP.trans kp_128 (by decide) (by decide)
    obtain ⟨v_130, hr_131⟩ := fk_3 hWF Tu fk_129 hr_112
    have tq_132 := mi_row hr_131 2 rfl
    have tq_133 := mi_row hr_131 3 rfl
    have bv_130 := wf_free v_130
    have tq_134 := mi_row hr_131 4 rfl
    have bv_81 := wf_free v_81
    have tq_135 := mi_row hr_131 19 rfl
    have tq_136 := mi_row hr_131 20 rfl
    have hnn : rs_sk gb nb (mi f_j82 u 3) < nb → 0 ≤ rs_v gb nb (rs_sk gb nb (mi f_j82 u 3)) := fun hl => hq1 _ (by omega) hl
    have br_123 := wf_free r_123
    refine lv_iconst (v := (-1)) G0.1 G0.2.1 dX12_readValley_94 (by decide) ?_
    refine lv_icmp_ne (tgt := 120) G0.1 G0.2.1 dX12_readValley_95 (by decide) (fun c_137 => ?_) (fun c_137 => ?_)
    · skip
      have tc_137 := ti_ne c_137
      replace en_125 := en_125 (by omega)
      refine lv_aload_n G0.1 G0.2.1 dX12_readValley_120 rfl (lv_at hl 0 rfl) ?_
      refine py_callv hw (va_runV (As := []) (rest := []) G0 (c_X12_bad l E G L_119 f_120 H_121.size u hG hWF Tu (show 0 ≤ mi f_120 u 3 by omega)) (cwV 0 G0.2.2.2.2 g_X12_readValley_X12_bad_143 rfl rfl rfl (by decide +kernel) ⟨(Nat.le_of_ble_eq_true rfl), (Nat.le_of_ble_eq_true rfl)⟩) (py_preV hw (C := RX12) (T := TX12) (N := 54) rfl hr_131) rfl rfl hl.1 rfl (lv_room (Nat.le_of_ble_eq_true rfl)) dX12_readValley_121 ⟨(Nat.le_of_ble_eq_true rfl), (Nat.le_of_ble_eq_true rfl)⟩) (fun L_138 f_139 H_140 locs hp_141 hw => ?_)
      obtain ⟨en_143, en_144, en_145, hWF, kp_146, fk_147⟩ := hp_141
      have hMB := hMB.kp (kp_f kp_146 (wt12_1 hG Tu) (by decide) (by decide) (fun _ => by decide))
      have hRF : ImpP (mi f_139 u 4 = -1) (RFm f_139 G u (mi f_139 u 20)) := fun hw => (hRF (by first | (have hz := fk_mi fk_147 4 (by decide) (by decide); omega) | omega)).same (kp_f kp_146 (wt12_18 hG Tu) (by decide) (by decide) (fun _ => by decide)) (fk_mi fk_147 20 (by decide) (by decide))
      have hRE : ImpP (mi f_139 u 4 = -1) (RD f_139 G u (rv_go gb nb rv_s0 0).2) := fun hw => (hRE (by first | (have hz := fk_mi fk_147 4 (by decide) (by decide); omega) | omega)).same (fk_mi fk_147 19 (by decide) (by decide)) (fk_mi fk_147 20 (by decide) (by decide)) (kp_f kp_146 (wt12_17 hG Tu) (by decide) (by decide) (fun _ => by decide)) (kp_f kp_146 (wt12_18 hG Tu) (by decide) (by decide) (fun _ => by decide))
      have hFK := hFK.trans fk_147 (by decide)
      have hKP := hKP.trans kp_146 (by decide) (by decide)
      obtain ⟨v_148, hr_149⟩ := fk_4 hWF Tu fk_147 hr_131
      have tq_150 := mi_row hr_149 2 rfl
      have tq_151 := mi_row hr_149 3 rfl
      have bv_130 := wf_free v_130
      have tq_152 := mi_row hr_149 4 rfl
      have bv_148 := wf_free v_148
      have tq_153 := mi_row hr_149 19 rfl
      have tq_154 := mi_row hr_149 20 rfl
      refine lv_aload_n G0.1 G0.2.1 dX12_readValley_124 rfl (lv_at hl 0 rfl) ?_
      refine py_get (C := RX12) (T := TX12) (N := 54) (k := 4) (v := .int v_148) G0 hw in_X12_readValley_X12 rfl hr_149 (by decide) (by decide +kernel) rfl dX12_readValley_125 ?_
      exact py_iret G0 hr rfl hlk hw ⟨(fun hr => hRF (by omega)), (by first | exact RVF_b hCE.1 (by omega) (by omega) | exact RVF_m hCE.1 (by omega) (by omega) (fun hd => by have hz1 := hd.1; have hz2 := hd.2.1; omega) (by omega)), (by first | omega | (intro q; omega)), (fun hr => by first | exact (hRE (by omega)).1.2 | (exfalso; omega)), hWF, hKP, hFK⟩ dX12_readValley_128
    · skip
      have tc_137 := ti_eq c_137
      clear en_125
      refine lv_aload_n G0.1 G0.2.1 dX12_readValley_98 rfl (lv_at hl 0 rfl) ?_
      refine py_get (C := RX12) (T := TX12) (N := 54) (k := 19) (v := .int v_85) G0 hw in_X12_readValley_X12 rfl hr_131 (by decide) (by decide +kernel) rfl dX12_readValley_99 ?_
      refine lv_iconst (v := 2) G0.1 G0.2.1 dX12_readValley_102 (by decide) ?_
      refine lv_icmp_lt (tgt := 120) G0.1 G0.2.1 dX12_readValley_103 (by decide) (fun c_155 => ?_) (fun c_155 => ?_)
      · skip
        have tc_155 := ti_lt c_155
        refine lv_aload_n G0.1 G0.2.1 dX12_readValley_120 rfl (lv_at hl 0 rfl) ?_
        refine py_callv hw (va_runV (As := []) (rest := []) G0 (c_X12_bad l E G L_119 f_120 H_121.size u hG hWF Tu (show 0 ≤ mi f_120 u 3 by omega)) (cwV 0 G0.2.2.2.2 g_X12_readValley_X12_bad_143 rfl rfl rfl (by decide +kernel) ⟨(Nat.le_of_ble_eq_true rfl), (Nat.le_of_ble_eq_true rfl)⟩) (py_preV hw (C := RX12) (T := TX12) (N := 54) rfl hr_131) rfl rfl hl.1 rfl (lv_room (Nat.le_of_ble_eq_true rfl)) dX12_readValley_121 ⟨(Nat.le_of_ble_eq_true rfl), (Nat.le_of_ble_eq_true rfl)⟩) (fun L_156 f_157 H_158 locs hp_159 hw => ?_)
        obtain ⟨en_161, en_162, en_163, hWF, kp_164, fk_165⟩ := hp_159
        have hMB := hMB.kp (kp_f kp_164 (wt12_1 hG Tu) (by decide) (by decide) (fun _ => by decide))
        have hRF : ImpP (mi f_157 u 4 = -1) (RFm f_157 G u (mi f_157 u 20)) := fun hw => (hRF (by first | (have hz := fk_mi fk_165 4 (by decide) (by decide); omega) | omega)).same (kp_f kp_164 (wt12_18 hG Tu) (by decide) (by decide) (fun _ => by decide)) (fk_mi fk_165 20 (by decide) (by decide))
        have hRE : ImpP (mi f_157 u 4 = -1) (RD f_157 G u (rv_go gb nb rv_s0 0).2) := fun hw => (hRE (by first | (have hz := fk_mi fk_165 4 (by decide) (by decide); omega) | omega)).same (fk_mi fk_165 19 (by decide) (by decide)) (fk_mi fk_165 20 (by decide) (by decide)) (kp_f kp_164 (wt12_17 hG Tu) (by decide) (by decide) (fun _ => by decide)) (kp_f kp_164 (wt12_18 hG Tu) (by decide) (by decide) (fun _ => by decide))
        have hFK := hFK.trans fk_165 (by decide)
        have hKP := hKP.trans kp_164 (by decide) (by decide)
        obtain ⟨v_166, hr_167⟩ := fk_4 hWF Tu fk_165 hr_131
        have tq_168 := mi_row hr_167 2 rfl
        have tq_169 := mi_row hr_167 3 rfl
        have bv_130 := wf_free v_130
        have tq_170 := mi_row hr_167 4 rfl
        have bv_166 := wf_free v_166
        have tq_171 := mi_row hr_167 19 rfl
        have tq_172 := mi_row hr_167 20 rfl
        refine lv_aload_n G0.1 G0.2.1 dX12_readValley_124 rfl (lv_at hl 0 rfl) ?_
        refine py_get (C := RX12) (T := TX12) (N := 54) (k := 4) (v := .int v_166) G0 hw in_X12_readValley_X12 rfl hr_167 (by decide) (by decide +kernel) rfl dX12_readValley_125 ?_
        exact py_iret G0 hr rfl hlk hw ⟨(fun hr => hRF (by omega)), (by first | exact RVF_b hCE.1 (by omega) (by omega) | exact RVF_m hCE.1 (by omega) (by omega) (fun hd => by have hz1 := hd.1; have hz2 := hd.2.1; omega) (by omega)), (by first | omega | (intro q; omega)), (fun hr => by first | exact (hRE (by omega)).1.2 | (exfalso; omega)), hWF, hKP, hFK⟩ dX12_readValley_128
      · skip
        have tc_155 := ti_nlt c_155
        refine lv_aload_n G0.1 G0.2.1 dX12_readValley_106 rfl (lv_at hl 0 rfl) ?_
        refine py_get (C := RX12) (T := TX12) (N := 54) (k := 20) (v := .int v_86) G0 hw in_X12_readValley_X12 rfl hr_131 (by decide) (by decide +kernel) rfl dX12_readValley_107 ?_
        refine lv_if_eq (tgt := 120) G0.1 G0.2.1 dX12_readValley_110 (by decide) (fun c_173 => ?_) (fun c_173 => ?_)
        · skip
          have tc_173 := ti_eq c_173
          refine lv_aload_n G0.1 G0.2.1 dX12_readValley_120 rfl (lv_at hl 0 rfl) ?_
          refine py_callv hw (va_runV (As := []) (rest := []) G0 (c_X12_bad l E G L_119 f_120 H_121.size u hG hWF Tu (show 0 ≤ mi f_120 u 3 by omega)) (cwV 0 G0.2.2.2.2 g_X12_readValley_X12_bad_143 rfl rfl rfl (by decide +kernel) ⟨(Nat.le_of_ble_eq_true rfl), (Nat.le_of_ble_eq_true rfl)⟩) (py_preV hw (C := RX12) (T := TX12) (N := 54) rfl hr_131) rfl rfl hl.1 rfl (lv_room (Nat.le_of_ble_eq_true rfl)) dX12_readValley_121 ⟨(Nat.le_of_ble_eq_true rfl), (Nat.le_of_ble_eq_true rfl)⟩) (fun L_174 f_175 H_176 locs hp_177 hw => ?_)
          obtain ⟨en_179, en_180, en_181, hWF, kp_182, fk_183⟩ := hp_177
          have hMB := hMB.kp (kp_f kp_182 (wt12_1 hG Tu) (by decide) (by decide) (fun _ => by decide))
          have hRF : ImpP (mi f_175 u 4 = -1) (RFm f_175 G u (mi f_175 u 20)) := fun hw => (hRF (by first | (have hz := fk_mi fk_183 4 (by decide) (by decide); omega) | omega)).same (kp_f kp_182 (wt12_18 hG Tu) (by decide) (by decide) (fun _ => by decide)) (fk_mi fk_183 20 (by decide) (by decide))
          have hRE : ImpP (mi f_175 u 4 = -1) (RD f_175 G u (rv_go gb nb rv_s0 0).2) := fun hw => (hRE (by first | (have hz := fk_mi fk_183 4 (by decide) (by decide); omega) | omega)).same (fk_mi fk_183 19 (by decide) (by decide)) (fk_mi fk_183 20 (by decide) (by decide)) (kp_f kp_182 (wt12_17 hG Tu) (by decide) (by decide) (fun _ => by decide)) (kp_f kp_182 (wt12_18 hG Tu) (by decide) (by decide) (fun _ => by decide))
          have hFK := hFK.trans fk_183 (by decide)
          have hKP := hKP.trans kp_182 (by decide) (by decide)
          obtain ⟨v_184, hr_185⟩ := fk_4 hWF Tu fk_183 hr_131
          have tq_186 := mi_row hr_185 2 rfl
          have tq_187 := mi_row hr_185 3 rfl
          have bv_130 := wf_free v_130
          have tq_188 := mi_row hr_185 4 rfl
          have bv_184 := wf_free v_184
          have tq_189 := mi_row hr_185 19 rfl
          have tq_190 := mi_row hr_185 20 rfl
          refine lv_aload_n G0.1 G0.2.1 dX12_readValley_124 rfl (lv_at hl 0 rfl) ?_
          refine py_get (C := RX12) (T := TX12) (N := 54) (k := 4) (v := .int v_184) G0 hw in_X12_readValley_X12 rfl hr_185 (by decide) (by decide +kernel) rfl dX12_readValley_125 ?_
          exact py_iret G0 hr rfl hlk hw ⟨(fun hr => hRF (by omega)), (by first | exact RVF_b hCE.1 (by omega) (by omega) | exact RVF_m hCE.1 (by omega) (by omega) (fun hd => by have hz1 := hd.1; have hz2 := hd.2.1; omega) (by omega)), (by first | omega | (intro q; omega)), (fun hr => by first | exact (hRE (by omega)).1.2 | (exfalso; omega)), hWF, hKP, hFK⟩ dX12_readValley_128
        · skip
          have tc_173 := ti_ne c_173
          have hah := ah_hd (hRE (by omega)) (by omega) (by omega) (by omega)
          refine lv_aload_n G0.1 G0.2.1 dX12_readValley_113 rfl (lv_at hl 0 rfl) ?_
          refine py_calli hw (va_runV (As := []) (rest := []) G0 (c_X12_areHoused l E G L_119 f_120 H_121.size u (rv_go gb nb rv_s0 0).2 hG hWF Tu (hRE (by omega))) (cwV 0 G0.2.2.2.2 g_X12_readValley_X12_areHoused_277 rfl rfl rfl (by decide +kernel) ⟨(Nat.le_of_ble_eq_true rfl), (Nat.le_of_ble_eq_true rfl)⟩) (py_preV hw (C := RX12) (T := TX12) (N := 54) rfl hr_131) rfl rfl hl.1 rfl (lv_room (Nat.le_of_ble_eq_true rfl)) dX12_readValley_114 ⟨(Nat.le_of_ble_eq_true rfl), (Nat.le_of_ble_eq_true rfl)⟩) (fun r_195 L_191 f_192 H_193 locs hp_194 hw => ?_)
          obtain ⟨b_198, en_196, en_197, rfl, rfl⟩ := hp_194
          refine lv_if_ne (tgt := 124) G0.1 G0.2.1 dX12_readValley_117 (by decide) (fun c_199 => ?_) (fun c_199 => ?_)
          · skip
            have tc_199 := ti_ne c_199
            refine lv_aload_n G0.1 G0.2.1 dX12_readValley_124 rfl (lv_at hl 0 rfl) ?_
            refine py_get (C := RX12) (T := TX12) (N := 54) (k := 4) (v := .int v_81) G0 hw in_X12_readValley_X12 rfl hr_131 (by decide) (by decide +kernel) rfl dX12_readValley_125 ?_
            exact py_iret G0 hr rfl hlk hw ⟨(fun hr => hRF (by omega)), (by first | exact RVF_h hCE.1 (by omega) (by omega) (hah.mp (en_196 (by omega))) (by omega) | exact RVF_m hCE.1 (by omega) (by omega) (fun hd => en_197 (by omega) (hah.mpr hd)) (by omega)), (by first | omega | (intro q; omega)), (fun hr => by first | exact (hRE (by omega)).1.2 | (exfalso; omega)), hWF, hKP, hFK⟩ dX12_readValley_128
          · skip
            have tc_199 := ti_eq c_199
            refine lv_aload_n G0.1 G0.2.1 dX12_readValley_120 rfl (lv_at hl 0 rfl) ?_
            refine py_callv hw (va_runV (As := []) (rest := []) G0 (c_X12_bad l E G L_119 f_120 H_193.size u hG hWF Tu (show 0 ≤ mi f_120 u 3 by omega)) (cwV 0 G0.2.2.2.2 g_X12_readValley_X12_bad_143 rfl rfl rfl (by decide +kernel) ⟨(Nat.le_of_ble_eq_true rfl), (Nat.le_of_ble_eq_true rfl)⟩) (py_preV hw (C := RX12) (T := TX12) (N := 54) rfl hr_131) rfl rfl hl.1 rfl (lv_room (Nat.le_of_ble_eq_true rfl)) dX12_readValley_121 ⟨(Nat.le_of_ble_eq_true rfl), (Nat.le_of_ble_eq_true rfl)⟩) (fun L_200 f_201 H_202 locs hp_203 hw => ?_)
            obtain ⟨en_205, en_206, en_207, hWF, kp_208, fk_209⟩ := hp_203
            have hMB := hMB.kp (kp_f kp_208 (wt12_1 hG Tu) (by decide) (by decide) (fun _ => by decide))
            have hRF : ImpP (mi f_201 u 4 = -1) (RFm f_201 G u (mi f_201 u 20)) := fun hw => (hRF (by first | (have hz := fk_mi fk_209 4 (by decide) (by decide); omega) | omega)).same (kp_f kp_208 (wt12_18 hG Tu) (by decide) (by decide) (fun _ => by decide)) (fk_mi fk_209 20 (by decide) (by decide))
            have hRE : ImpP (mi f_201 u 4 = -1) (RD f_201 G u (rv_go gb nb rv_s0 0).2) := fun hw => (hRE (by first | (have hz := fk_mi fk_209 4 (by decide) (by decide); omega) | omega)).same (fk_mi fk_209 19 (by decide) (by decide)) (fk_mi fk_209 20 (by decide) (by decide)) (kp_f kp_208 (wt12_17 hG Tu) (by decide) (by decide) (fun _ => by decide)) (kp_f kp_208 (wt12_18 hG Tu) (by decide) (by decide) (fun _ => by decide))
            have hFK := hFK.trans fk_209 (by decide)
            have hKP := hKP.trans kp_208 (by decide) (by decide)
            obtain ⟨v_210, hr_211⟩ := fk_4 hWF Tu fk_209 hr_131
            have tq_212 := mi_row hr_211 2 rfl
            have tq_213 := mi_row hr_211 3 rfl
            have bv_130 := wf_free v_130
            have tq_214 := mi_row hr_211 4 rfl
            have bv_210 := wf_free v_210
            have tq_215 := mi_row hr_211 19 rfl
            have tq_216 := mi_row hr_211 20 rfl
            refine lv_aload_n G0.1 G0.2.1 dX12_readValley_124 rfl (lv_at hl 0 rfl) ?_
            refine py_get (C := RX12) (T := TX12) (N := 54) (k := 4) (v := .int v_210) G0 hw in_X12_readValley_X12 rfl hr_211 (by decide) (by decide +kernel) rfl dX12_readValley_125 ?_
            exact py_iret G0 hr rfl hlk hw ⟨(fun hr => hRF (by omega)), (by first | exact RVF_h hCE.1 (by omega) (by omega) (hah.mp (en_196 (by omega))) (by omega) | exact RVF_m hCE.1 (by omega) (by omega) (fun hd => en_197 (by omega) (hah.mpr hd)) (by omega)), (by first | omega | (intro q; omega)), (fun hr => by first | exact (hRE (by omega)).1.2 | (exfalso; omega)), hWF, hKP, hFK⟩ dX12_readValley_128
set_option maxHeartbeats 4000000 in
set_option maxRecDepth 100000 in
theorem c_X12_readValley (l : Launch) (E : py_E) (G : wf_G) (L : List Nat) (f : py_F) (sz : Nat) (u : Nat) (gb : rs_B) (nb : Int) (hG : GT G) (hWF : WF E G L f) (Tu : G.1 u = 13) (hp0 : mi f u 2 = nb) (hq0 : AG f (G.2 u 1) gb nb) (hq1 : rs_nn gb nb) : Met l yX12_readValley w_X12_readValley ({ frames := 5, cells := 0, slots := 0, locals := 111 }) (py_Pc E [.ref u] L f sz) (py_Qi E L f sz (fun r L1 f1 => (r.toInt = -1 → RFm f1 G u (mi f1 u 20)) ∧ (RVF gb nb r.toInt) ∧ (r.toInt = -1 → 1 ≤ mi f1 u 20) ∧ (r.toInt = -1 → mi f1 u 20 = rv_fm gb nb) ∧ WF E G L1 f1 ∧ KP G [50, 51, 13] false f f1 ∧ FK [3, 4, 19, 20] f f1 u)) 0 0 (va_A (va_pl L f) sz) := by
  refine Met.ofW (cc := cX12_readValley) (maxL := 2) (ret := (some .int)) (by decide) rfl ?_
  intro p e s m args below meth c s₁ B hml hv
  obtain ⟨rfl, rfl, hw⟩ := py_start hv
  have G0 : CallFix p m c cX12_readValley 2 s _ w_X12_readValley RX12 := ⟨B.exec, B.bytes, hml, findClass_of_methodNamed B.named, atoms_spec (ws := w_X12_readValley) B.pre⟩
  have hr := B.returns
  have hlk := B.notSynchronized
  have kcm1 : (-1 : Int32).toInt = -1 := rfl
  have kc0 : (0 : Int32).toInt = 0 := rfl
  have kc1 : (1 : Int32).toInt = 1 := rfl
  have kc2 : (2 : Int32).toInt = 2 := rfl
  have kc59 : (59 : Int32).toInt = 59 := rfl
  have hl := lv_entry ([.ref u]) (n := 2) (Nat.le_of_ble_eq_true rfl)
  rw [lg_entry_eq]
  generalize (lg_sl ([.ref u]) ++ List.replicate (2 - (lg_sl ([.ref u])).length) Slot.unset).toArray = ls at hl ⊢
  have hl : lv_has ls 2 [(0, .ref u)] := hl
  have hFK : FK [3, 4, 19, 20] f f u := FK.refl
  have hKP : KP G [50, 51, 13] false f f := KP.refl
  have hMB := hq0
  refine lv_aload_n G0.1 G0.2.1 dX12_readValley_0 rfl (lv_at hl 0 rfl) ?_
  refine lv_iconst (v := 0) G0.1 G0.2.1 dX12_readValley_1 (by decide) ?_
  obtain ⟨v_1, v_2, v_3, v_4, v_5, v_6, v_7, v_8, v_9, v_10, v_11, v_12, y_13, v_14, v_15, v_16, v_17, v_18, y_19, v_20, y_21, v_22, hr_35, b_23, b_24, b_25, b_26, b_27, b_28, b_29, b_30, b_31, b_32, b_33, b_34⟩ := wg_12 hWF Tu
  have tq_36 := mi_row hr_35 2 rfl
  have tq_37 := mi_row hr_35 3 rfl
  have bv_3 := wf_free v_3
  have tq_38 := mi_row hr_35 4 rfl
  have bv_4 := wf_free v_4
  have tq_39 := mi_row hr_35 19 rfl
  have tq_40 := mi_row hr_35 20 rfl
  refine py_put (C := RX12) (T := TX12) (N := 54) (k := 3) (v := .int 0) (fs' := [.int v_1, .ref (G.2 u 1), .int v_2, .int 0, .int v_4, .int v_5, .ref (G.2 u 6), .ref (G.2 u 7), .ref (G.2 u 8), .ref (G.2 u 9), .ref (G.2 u 10), .ref (G.2 u 11), .ref (G.2 u 12), .int v_6, .int v_7, .ref (G.2 u 15), .ref (G.2 u 16), .ref (G.2 u 17), .ref (G.2 u 18), .int v_8, .int v_9, .ref (G.2 u 21), .ref (G.2 u 22), .ref (G.2 u 23), .int v_10, .int v_11, .ref (G.2 u 26), .ref (G.2 u 27), .ref (G.2 u 28), .int v_12, .long y_13, .int v_14, .int v_15, .int v_16, .int v_17, .ref (G.2 u 35), .ref (G.2 u 36), .ref (G.2 u 37), .ref (G.2 u 38), .ref (G.2 u 39), .ref (G.2 u 40), .ref (G.2 u 41), .ref (G.2 u 42), .int v_18, .ref (G.2 u 44), .ref (G.2 u 45), .ref (G.2 u 46), .ref (G.2 u 47), .long y_19, .ref (G.2 u 49), .ref (G.2 u 50), .int v_20, .long y_21, .int v_22]) (ty0 := tyX12) G0 hw tyX12_ok nmX12 in_X12_readValley_X12 rfl hr_35 (by decide) (by decide +kernel) rfl rfl rfl rfl (Nat.le_of_ble_eq_true rfl) rfl dX12_readValley_2 (fun f_41 H_42 locs h_43 x_44 hw => ?_)
  have hMB := hMB.kp (kp_f (KP.refl.upd hWF x_44 Tu (Or.inl (by decide)) : KP G [13] false f f_41) (wt12_1 hG Tu) (by decide) (by decide) (fun _ => by decide))
  have hFK := hFK.put hr_35 h_43 3 (by decide) rfl
  have hKP := hKP.upd hWF x_44 Tu (Or.inl (by decide))
  have hWF := wf_upd hWF h_43 x_44 (by rw [Tu]; exact ⟨v_1, v_2, 0, v_4, v_5, v_6, v_7, v_8, v_9, v_10, v_11, v_12, y_13, v_14, v_15, v_16, v_17, v_18, y_19, v_20, y_21, v_22, rfl, ⟨by omega, by omega⟩, ⟨by omega, by omega⟩, ⟨by omega, by omega⟩, ⟨by omega, by omega⟩, ⟨by omega, by omega⟩, ⟨by omega, by omega⟩, ⟨by omega, by omega⟩, ⟨by omega, by omega⟩, ⟨by omega, by omega⟩, ⟨by omega, by omega⟩, ⟨by omega, by omega⟩, ⟨by omega, by omega⟩⟩)
  have tq_45 := mi_row h_43 2 rfl
  have tq_46 := mi_row h_43 3 rfl
  have tq_47 := mi_row h_43 4 rfl
  have bv_4 := wf_free v_4
  have tq_48 := mi_row h_43 19 rfl
  have tq_49 := mi_row h_43 20 rfl
  refine lv_aload_n G0.1 G0.2.1 dX12_readValley_5 rfl (lv_at hl 0 rfl) ?_
  refine lv_iconst (v := (-1)) G0.1 G0.2.1 dX12_readValley_6 (by decide) ?_
  refine py_put (C := RX12) (T := TX12) (N := 54) (k := 4) (v := .int (-1)) (fs' := [.int v_1, .ref (G.2 u 1), .int v_2, .int 0, .int (-1), .int v_5, .ref (G.2 u 6), .ref (G.2 u 7), .ref (G.2 u 8), .ref (G.2 u 9), .ref (G.2 u 10), .ref (G.2 u 11), .ref (G.2 u 12), .int v_6, .int v_7, .ref (G.2 u 15), .ref (G.2 u 16), .ref (G.2 u 17), .ref (G.2 u 18), .int v_8, .int v_9, .ref (G.2 u 21), .ref (G.2 u 22), .ref (G.2 u 23), .int v_10, .int v_11, .ref (G.2 u 26), .ref (G.2 u 27), .ref (G.2 u 28), .int v_12, .long y_13, .int v_14, .int v_15, .int v_16, .int v_17, .ref (G.2 u 35), .ref (G.2 u 36), .ref (G.2 u 37), .ref (G.2 u 38), .ref (G.2 u 39), .ref (G.2 u 40), .ref (G.2 u 41), .ref (G.2 u 42), .int v_18, .ref (G.2 u 44), .ref (G.2 u 45), .ref (G.2 u 46), .ref (G.2 u 47), .long y_19, .ref (G.2 u 49), .ref (G.2 u 50), .int v_20, .long y_21, .int v_22]) (ty0 := tyX12) G0 hw tyX12_ok nmX12 in_X12_readValley_X12 rfl h_43 (by decide) (by decide +kernel) rfl rfl rfl rfl (Nat.le_of_ble_eq_true rfl) rfl dX12_readValley_7 (fun f_50 H_51 locs h_52 x_53 hw => ?_)
  have hMB := hMB.kp (kp_f (KP.refl.upd hWF x_53 Tu (Or.inl (by decide)) : KP G [13] false f_41 f_50) (wt12_1 hG Tu) (by decide) (by decide) (fun _ => by decide))
  have hFK := hFK.put h_43 h_52 4 (by decide) rfl
  have hKP := hKP.upd hWF x_53 Tu (Or.inl (by decide))
  have hWF := wf_upd hWF h_52 x_53 (by rw [Tu]; exact ⟨v_1, v_2, 0, (-1), v_5, v_6, v_7, v_8, v_9, v_10, v_11, v_12, y_13, v_14, v_15, v_16, v_17, v_18, y_19, v_20, y_21, v_22, rfl, ⟨by omega, by omega⟩, ⟨by omega, by omega⟩, ⟨by omega, by omega⟩, ⟨by omega, by omega⟩, ⟨by omega, by omega⟩, ⟨by omega, by omega⟩, ⟨by omega, by omega⟩, ⟨by omega, by omega⟩, ⟨by omega, by omega⟩, ⟨by omega, by omega⟩, ⟨by omega, by omega⟩, ⟨by omega, by omega⟩⟩)
  have tq_54 := mi_row h_52 2 rfl
  have tq_55 := mi_row h_52 3 rfl
  have tq_56 := mi_row h_52 4 rfl
  have tq_57 := mi_row h_52 19 rfl
  have tq_58 := mi_row h_52 20 rfl
  refine lv_aload_n G0.1 G0.2.1 dX12_readValley_10 rfl (lv_at hl 0 rfl) ?_
  refine lv_iconst (v := 0) G0.1 G0.2.1 dX12_readValley_11 (by decide) ?_
  refine py_put (C := RX12) (T := TX12) (N := 54) (k := 19) (v := .int 0) (fs' := [.int v_1, .ref (G.2 u 1), .int v_2, .int 0, .int (-1), .int v_5, .ref (G.2 u 6), .ref (G.2 u 7), .ref (G.2 u 8), .ref (G.2 u 9), .ref (G.2 u 10), .ref (G.2 u 11), .ref (G.2 u 12), .int v_6, .int v_7, .ref (G.2 u 15), .ref (G.2 u 16), .ref (G.2 u 17), .ref (G.2 u 18), .int 0, .int v_9, .ref (G.2 u 21), .ref (G.2 u 22), .ref (G.2 u 23), .int v_10, .int v_11, .ref (G.2 u 26), .ref (G.2 u 27), .ref (G.2 u 28), .int v_12, .long y_13, .int v_14, .int v_15, .int v_16, .int v_17, .ref (G.2 u 35), .ref (G.2 u 36), .ref (G.2 u 37), .ref (G.2 u 38), .ref (G.2 u 39), .ref (G.2 u 40), .ref (G.2 u 41), .ref (G.2 u 42), .int v_18, .ref (G.2 u 44), .ref (G.2 u 45), .ref (G.2 u 46), .ref (G.2 u 47), .long y_19, .ref (G.2 u 49), .ref (G.2 u 50), .int v_20, .long y_21, .int v_22]) (ty0 := tyX12) G0 hw tyX12_ok nmX12 in_X12_readValley_X12 rfl h_52 (by decide) (by decide +kernel) rfl rfl rfl rfl (Nat.le_of_ble_eq_true rfl) rfl dX12_readValley_12 (fun f_59 H_60 locs h_61 x_62 hw => ?_)
  have hMB := hMB.kp (kp_f (KP.refl.upd hWF x_62 Tu (Or.inl (by decide)) : KP G [13] false f_50 f_59) (wt12_1 hG Tu) (by decide) (by decide) (fun _ => by decide))
  have hFK := hFK.put h_52 h_61 19 (by decide) rfl
  have hKP := hKP.upd hWF x_62 Tu (Or.inl (by decide))
  have hWF := wf_upd hWF h_61 x_62 (by rw [Tu]; exact ⟨v_1, v_2, 0, (-1), v_5, v_6, v_7, 0, v_9, v_10, v_11, v_12, y_13, v_14, v_15, v_16, v_17, v_18, y_19, v_20, y_21, v_22, rfl, ⟨by omega, by omega⟩, ⟨by omega, by omega⟩, ⟨by omega, by omega⟩, ⟨by omega, by omega⟩, ⟨by omega, by omega⟩, ⟨by omega, by omega⟩, ⟨by omega, by omega⟩, ⟨by omega, by omega⟩, ⟨by omega, by omega⟩, ⟨by omega, by omega⟩, ⟨by omega, by omega⟩, ⟨by omega, by omega⟩⟩)
  have tq_63 := mi_row h_61 2 rfl
  have tq_64 := mi_row h_61 3 rfl
  have tq_65 := mi_row h_61 4 rfl
  have tq_66 := mi_row h_61 19 rfl
  have tq_67 := mi_row h_61 20 rfl
  refine lv_aload_n G0.1 G0.2.1 dX12_readValley_15 rfl (lv_at hl 0 rfl) ?_
  refine lv_iconst (v := 0) G0.1 G0.2.1 dX12_readValley_16 (by decide) ?_
  refine py_put (C := RX12) (T := TX12) (N := 54) (k := 20) (v := .int 0) (fs' := [.int v_1, .ref (G.2 u 1), .int v_2, .int 0, .int (-1), .int v_5, .ref (G.2 u 6), .ref (G.2 u 7), .ref (G.2 u 8), .ref (G.2 u 9), .ref (G.2 u 10), .ref (G.2 u 11), .ref (G.2 u 12), .int v_6, .int v_7, .ref (G.2 u 15), .ref (G.2 u 16), .ref (G.2 u 17), .ref (G.2 u 18), .int 0, .int 0, .ref (G.2 u 21), .ref (G.2 u 22), .ref (G.2 u 23), .int v_10, .int v_11, .ref (G.2 u 26), .ref (G.2 u 27), .ref (G.2 u 28), .int v_12, .long y_13, .int v_14, .int v_15, .int v_16, .int v_17, .ref (G.2 u 35), .ref (G.2 u 36), .ref (G.2 u 37), .ref (G.2 u 38), .ref (G.2 u 39), .ref (G.2 u 40), .ref (G.2 u 41), .ref (G.2 u 42), .int v_18, .ref (G.2 u 44), .ref (G.2 u 45), .ref (G.2 u 46), .ref (G.2 u 47), .long y_19, .ref (G.2 u 49), .ref (G.2 u 50), .int v_20, .long y_21, .int v_22]) (ty0 := tyX12) G0 hw tyX12_ok nmX12 in_X12_readValley_X12 rfl h_61 (by decide) (by decide +kernel) rfl rfl rfl rfl (Nat.le_of_ble_eq_true rfl) rfl dX12_readValley_17 (fun f_68 H_69 locs h_70 x_71 hw => ?_)
  have hMB := hMB.kp (kp_f (KP.refl.upd hWF x_71 Tu (Or.inl (by decide)) : KP G [13] false f_59 f_68) (wt12_1 hG Tu) (by decide) (by decide) (fun _ => by decide))
  have hFK := hFK.put h_61 h_70 20 (by decide) rfl
  have hKP := hKP.upd hWF x_71 Tu (Or.inl (by decide))
  have hWF := wf_upd hWF h_70 x_71 (by rw [Tu]; exact ⟨v_1, v_2, 0, (-1), v_5, v_6, v_7, 0, 0, v_10, v_11, v_12, y_13, v_14, v_15, v_16, v_17, v_18, y_19, v_20, y_21, v_22, rfl, ⟨by omega, by omega⟩, ⟨by omega, by omega⟩, ⟨by omega, by omega⟩, ⟨by omega, by omega⟩, ⟨by omega, by omega⟩, ⟨by omega, by omega⟩, ⟨by omega, by omega⟩, ⟨by omega, by omega⟩, ⟨by omega, by omega⟩, ⟨by omega, by omega⟩, ⟨by omega, by omega⟩, ⟨by omega, by omega⟩⟩)
  have tq_72 := mi_row h_70 2 rfl
  have tq_73 := mi_row h_70 3 rfl
  have tq_74 := mi_row h_70 4 rfl
  have tq_75 := mi_row h_70 19 rfl
  have tq_76 := mi_row h_70 20 rfl
  have hRF : ImpP (mi f_68 u 4 = -1) (RFm f_68 G u (mi f_68 u 20)) := fun _ => RFm.zero (by omega)
  refine lv_iconst (v := 1) G0.1 G0.2.1 dX12_readValley_20 (by decide) ?_
  refine lv_istore_n (lv' := [(1, .int 1), (0, .ref u)]) G0.1 G0.2.1 dX12_readValley_21 rfl hl (by decide) rfl (fun ls hl => ?_)
  have lo_22 : ∀ n_22 : Nat, ∀ (v_77 : Int32) (L_j22 : List Nat) (f_j22 : py_F) (H_j22 : Heap) (locs : List Loc) (ls : Array Slot), (mi f u 2 - mi f_j22 u 3).toNat + v_77.toInt.toNat = n_22 → (0 ≤ v_77.toInt ∧ v_77.toInt ≤ 1) → WF E G L_j22 f_j22 → KP G [50, 51, 13] false f f_j22 → AG f_j22 (G.2 u 1) gb nb → FK [3, 4, 19, 20] f f_j22 u → ImpP (mi f_j22 u 4 = -1) (RFm f_j22 G u (mi f_j22 u 20)) → (0 ≤ mi f_j22 u 3 ∧ mi f_j22 u 2 = mi f u 2 ∧ mi f_j22 u 3 ≤ mi f u 2) → (mi f_j22 u 4 = -1 → v_77.toInt = 1 → GOX gb nb f_j22 G u (mi f_j22 u 3)) → (mi f_j22 u 4 = -1 → v_77.toInt = 0 → CE gb nb (rv_go gb nb rv_s0 0) (mi f_j22 u 3) ∧ RD f_j22 G u (rv_go gb nb rv_s0 0).2) → (mi f_j22 u 4 ≠ -1 → (rv_go gb nb rv_s0 0).1.1 = 0 ∧ mi f_j22 u 4 = (rv_go gb nb rv_s0 0).1.2) → py_W E (va_A (va_pl L f) s.heap.size) s L_j22 f_j22 H_j22 locs → lv_has ls 2 [(1, .int v_77), (0, .ref u)] → W p l e (headSpec w_X12_readValley ({ frames := 5, cells := 0, slots := 0, locals := 111 })).room s m ([.ref u] : List Value).toArray below meth c H_j22 locs 0 0 (MQ below (py_Qi E L f s.heap.size (fun r L1 f1 => (r.toInt = -1 → RFm f1 G u (mi f1 u 20)) ∧ (RVF gb nb r.toInt) ∧ (r.toInt = -1 → 1 ≤ mi f1 u 20) ∧ (r.toInt = -1 → mi f1 u 20 = rv_fm gb nb) ∧ WF E G L1 f1 ∧ KP G [50, 51, 13] false f f1 ∧ FK [3, 4, 19, 20] f f1 u)) ([.ref u] : List Value).toArray s 0 0 (va_A (va_pl L f) s.heap.size)) (F0 m 22 ls []) := by
    intro n_22
    induction n_22 using Nat.strongRecOn with
    | _ n_22 ih_22 =>
      intro v_77 L_j22 f_j22 H_j22 locs ls hn_22 bv_77 hWF hKP hMB hFK hRF iv0 iv1 iv2 iv3 hw hl
      refine lv_iload_n G0.1 G0.2.1 dX12_readValley_22 rfl (lv_at hl 0 rfl) ?_
      have jn_82 := ol_X12_readValley_82 (l := l) (e := e) (below := below) (E := E) (L := L) (f := f) hG u gb nb Tu G0 hr hlk hp0 hq1
      refine lv_if_eq (tgt := 82) G0.1 G0.2.1 dX12_readValley_23 (by decide) (fun c_217 => ?_) (fun c_217 => ?_)
      · skip
        have tc_217 := ti_eq c_217
        exact jn_82 L_j22 f_j22 _ _ ls hWF hKP hMB hFK hRF (fun hw => by first | exact iv2 hw (by omega) | (exfalso; omega)) iv3 (by first | omega | (intros; omega)) hw (lv_sub hl [1] rfl)
      · skip
        have tc_217 := ti_ne c_217
        refine lv_aload_n G0.1 G0.2.1 dX12_readValley_26 rfl (lv_at hl 1 rfl) ?_
        obtain ⟨v_218, v_219, v_220, v_221, v_222, v_223, v_224, v_225, v_226, v_227, v_228, v_229, y_230, v_231, v_232, v_233, v_234, v_235, y_236, v_237, y_238, v_239, hr_252, b_240, b_241, b_242, b_243, b_244, b_245, b_246, b_247, b_248, b_249, b_250, b_251⟩ := wg_12 hWF Tu
        have tq_253 := mi_row hr_252 2 rfl
        have tq_254 := mi_row hr_252 3 rfl
        have bv_220 := wf_free v_220
        have tq_255 := mi_row hr_252 4 rfl
        have bv_221 := wf_free v_221
        have tq_256 := mi_row hr_252 19 rfl
        have tq_257 := mi_row hr_252 20 rfl
        refine py_get (C := RX12) (T := TX12) (N := 54) (k := 4) (v := .int v_221) G0 hw in_X12_readValley_X12 rfl hr_252 (by decide) (by decide +kernel) rfl dX12_readValley_27 ?_
        refine lv_iconst (v := (-1)) G0.1 G0.2.1 dX12_readValley_30 (by decide) ?_
        refine lv_icmp_ne (tgt := 82) G0.1 G0.2.1 dX12_readValley_31 (by decide) (fun c_258 => ?_) (fun c_258 => ?_)
        · skip
          have tc_258 := ti_ne c_258
          exact jn_82 L_j22 f_j22 _ _ ls hWF hKP hMB hFK hRF (fun hw => by first | exact iv2 hw (by omega) | (exfalso; omega)) iv3 (by first | omega | (intros; omega)) hw (lv_sub hl [1] rfl)
        · skip
          have tc_258 := ti_eq c_258
          obtain ⟨sv, hgo, hRD⟩ := iv1 (by omega) (by omega)
          obtain ⟨pv, hpv⟩ : ∃ z : Int, z = mi f_j22 u 3 := ⟨_, rfl⟩
          rw [← hpv] at hgo
          clear iv1 iv2 iv3
          have hv1 : v_77.toInt = 1 := by omega
          clear tc_217
          refine lv_aload_n G0.1 G0.2.1 dX12_readValley_34 rfl (lv_at hl 1 rfl) ?_
          refine py_callv hw (va_runV (As := []) (rest := []) G0 (c_X12_clauseText l E G L_j22 f_j22 H_j22.size u gb nb pv sv hG hWF Tu (show 0 ≤ mi f_j22 u 3 ∧ mi f_j22 u 3 ≤ mi f_j22 u 2 ∧ mi f_j22 u 4 = -1 by omega) (show mi f_j22 u 3 = pv by omega) (show mi f_j22 u 2 = nb ∧ 0 ≤ pv by omega) hRD hMB) (cwV 0 G0.2.2.2.2 g_X12_readValley_X12_clauseText_274 rfl rfl rfl (by decide +kernel) ⟨(Nat.le_of_ble_eq_true rfl), (Nat.le_of_ble_eq_true rfl)⟩) (py_preV hw (C := RX12) (T := TX12) (N := 54) rfl hr_252) rfl rfl hl.1 rfl (lv_room (Nat.le_of_ble_eq_true rfl)) dX12_readValley_35 ⟨(Nat.le_of_ble_eq_true rfl), (Nat.le_of_ble_eq_true rfl)⟩) (fun L_259 f_260 H_261 locs hp_262 hw => ?_)
          obtain ⟨en_264, en_265, en_266, en_267, en_268, hWF, kp_269, fk_270⟩ := hp_262
          have hMB := hMB.kp (kp_f kp_269 (wt12_1 hG Tu) (by decide) (by decide) (fun _ => by decide))
          have hFK := hFK.trans fk_270 (by decide)
          have hKP := hKP.trans kp_269 (by decide) (by decide)
          obtain ⟨v_271, v_272, v_273, v_274, hr_275, b_276, b_277⟩ := fk_3_4_19_20 hWF Tu fk_270 hr_252
          have tq_278 := mi_row hr_275 2 rfl
          have tq_279 := mi_row hr_275 3 rfl
          have bv_271 := wf_free v_271
          have tq_280 := mi_row hr_275 4 rfl
          have bv_272 := wf_free v_272
          have tq_281 := mi_row hr_275 19 rfl
          have tq_282 := mi_row hr_275 20 rfl
          have hRF : ImpP (mi f_260 u 4 = -1) (RFm f_260 G u (mi f_260 u 20)) := fun hw => en_265 (hRF (by omega)) hw
          have hRC : ImpP (mi f_260 u 4 = -1) (RD f_260 G u (rv_cl gb nb sv pv).2) := en_268
          have hQ1 : ∀ _ : Unit, _ → _ := fun _ => en_266
          have hQ2 : ∀ _ : Unit, _ → _ := fun _ => en_267
          clear en_265 en_266 en_267 en_268
          refine lv_aload_n G0.1 G0.2.1 dX12_readValley_38 rfl (lv_at hl 1 rfl) ?_
          refine py_get (C := RX12) (T := TX12) (N := 54) (k := 4) (v := .int v_272) G0 hw in_X12_readValley_X12 rfl hr_275 (by decide) (by decide +kernel) rfl dX12_readValley_39 ?_
          refine lv_iconst (v := (-1)) G0.1 G0.2.1 dX12_readValley_42 (by decide) ?_
          refine lv_icmp_ne (tgt := 59) G0.1 G0.2.1 dX12_readValley_43 (by decide) (fun c_283 => ?_) (fun c_283 => ?_)
          · skip
            have tc_283 := ti_ne c_283
            refine lv_iconst (v := 0) G0.1 G0.2.1 dX12_readValley_59 (by decide) ?_
            refine lv_istore_n (lv' := [(1, .int 0), (0, .ref u)]) G0.1 G0.2.1 dX12_readValley_60 rfl hl (by decide) rfl (fun ls hl => ?_)
            refine lv_aload_n G0.1 G0.2.1 dX12_readValley_61 rfl (lv_at hl 1 rfl) ?_
            refine lv_dup G0.1 G0.2.1 dX12_readValley_62 rfl ?_
            refine py_get (C := RX12) (T := TX12) (N := 54) (k := 3) (v := .int v_271) G0 hw in_X12_readValley_X12 rfl hr_275 (by decide) (by decide +kernel) rfl dX12_readValley_63 ?_
            refine lv_iload_n G0.1 G0.2.1 dX12_readValley_66 rfl (lv_at hl 0 rfl) ?_
            refine lv_if_eq (tgt := 74) G0.1 G0.2.1 dX12_readValley_67 (by decide) (fun c_284 => ?_) (fun c_284 => ?_)
            · skip
              have tc_284 := ti_eq c_284
              refine lv_iconst (v := 0) G0.1 G0.2.1 dX12_readValley_74 (by decide) ?_
              refine lv_iadd G0.1 G0.2.1 dX12_readValley_75 ?_
              refine lv_topi (fun x_285 ex_285 => ?_)
              first | have tx_285 := ti_add ex_285 (by omega -splitDisjunctions) (by omega -splitDisjunctions) | skip
              refine py_put (C := RX12) (T := TX12) (N := 54) (k := 3) (v := .int x_285) (fs' := [.int v_218, .ref (G.2 u 1), .int v_219, .int x_285, .int v_272, .int v_222, .ref (G.2 u 6), .ref (G.2 u 7), .ref (G.2 u 8), .ref (G.2 u 9), .ref (G.2 u 10), .ref (G.2 u 11), .ref (G.2 u 12), .int v_223, .int v_224, .ref (G.2 u 15), .ref (G.2 u 16), .ref (G.2 u 17), .ref (G.2 u 18), .int v_273, .int v_274, .ref (G.2 u 21), .ref (G.2 u 22), .ref (G.2 u 23), .int v_227, .int v_228, .ref (G.2 u 26), .ref (G.2 u 27), .ref (G.2 u 28), .int v_229, .long y_230, .int v_231, .int v_232, .int v_233, .int v_234, .ref (G.2 u 35), .ref (G.2 u 36), .ref (G.2 u 37), .ref (G.2 u 38), .ref (G.2 u 39), .ref (G.2 u 40), .ref (G.2 u 41), .ref (G.2 u 42), .int v_235, .ref (G.2 u 44), .ref (G.2 u 45), .ref (G.2 u 46), .ref (G.2 u 47), .long y_236, .ref (G.2 u 49), .ref (G.2 u 50), .int v_237, .long y_238, .int v_239]) (ty0 := tyX12) G0 hw tyX12_ok nmX12 in_X12_readValley_X12 rfl hr_275 (by decide) (by decide +kernel) rfl rfl rfl rfl (Nat.le_of_ble_eq_true rfl) rfl dX12_readValley_76 (fun f_286 H_287 locs h_288 x_289 hw => ?_)
              have hMB := hMB.kp (kp_f (KP.refl.upd hWF x_289 Tu (Or.inl (by decide)) : KP G [13] false f_260 f_286) (wt12_1 hG Tu) (by decide) (by decide) (fun _ => by decide))
              have hRF : ImpP (mi f_286 u 4 = -1) (RFm f_286 G u (mi f_286 u 20)) := fun hw => (hRF (by have z1 := mi_row hr_275 4 rfl; have z2 := mi_row h_288 4 rfl; omega)).same (x_289 _ (hWF _ (by rw [(wt12_18 hG Tu)]; decide)).1 (wf_ne (wt12_18 hG Tu) Tu (by decide))).2 (by have z1 := mi_row hr_275 20 rfl; have z2 := mi_row h_288 20 rfl; omega)
              have hRC : ImpP (mi f_286 u 4 = -1) (RD f_286 G u (rv_cl gb nb sv pv).2) := fun hw => (hRC (by have z1 := mi_row hr_275 4 rfl; have z2 := mi_row h_288 4 rfl; omega)).same (by have z1 := mi_row hr_275 19 rfl; have z2 := mi_row h_288 19 rfl; omega) (by have z1 := mi_row hr_275 20 rfl; have z2 := mi_row h_288 20 rfl; omega) (x_289 _ (hWF _ (by rw [wt12_17 hG Tu]; decide)).1 (wf_ne (wt12_17 hG Tu) Tu (by decide))).2 (x_289 _ (hWF _ (by rw [wt12_18 hG Tu]; decide)).1 (wf_ne (wt12_18 hG Tu) Tu (by decide))).2
              have hFK := hFK.put hr_275 h_288 3 (by decide) rfl
              have hKP := hKP.upd hWF x_289 Tu (Or.inl (by decide))
              have hWF := wf_upd hWF h_288 x_289 (by rw [Tu]; exact ⟨v_218, v_219, x_285, v_272, v_222, v_223, v_224, v_273, v_274, v_227, v_228, v_229, y_230, v_231, v_232, v_233, v_234, v_235, y_236, v_237, y_238, v_239, rfl, ⟨by omega, by omega⟩, ⟨by omega, by omega⟩, ⟨by omega, by omega⟩, ⟨by omega, by omega⟩, ⟨by omega, by omega⟩, ⟨by omega, by omega⟩, ⟨by omega, by omega⟩, ⟨by omega, by omega⟩, ⟨by omega, by omega⟩, ⟨by omega, by omega⟩, ⟨by omega, by omega⟩, ⟨by omega, by omega⟩⟩)
              have tq_290 := mi_row h_288 2 rfl
              have tq_291 := mi_row h_288 3 rfl
              have bx_285 := wf_free x_285
              have tq_292 := mi_row h_288 4 rfl
              have bv_272 := wf_free v_272
              have tq_293 := mi_row h_288 19 rfl
              have tq_294 := mi_row h_288 20 rfl
              refine lv_goto (tgt := 22) G0.1 G0.2.1 dX12_readValley_79 (by decide) ?_
              exact ih_22 ((mi f u 2 - mi f_286 u 3).toNat + (0 : Int32).toInt.toNat) (by omega) 0 L_259 f_286 _ _ ls rfl ⟨by omega, by omega⟩ hWF hKP hMB hFK hRF (by first | omega | (intros; omega)) (fun hw hm => by first | (exfalso; omega) | exact ⟨_, go_1 hgo (hQ1 () (by omega)) (by omega) (by omega) (by omega), hRC hw⟩) (fun hw hm => by first | (exfalso; omega) | (have hz := go_0 (b := mi f_286 u 3) hgo (hQ1 () (by omega)) (by omega) (by omega) (by omega); exact ⟨hz.1, by rw [hz.2]; exact hRC hw⟩)) (fun hw => by first | (exfalso; omega) | exact go_w hgo (by have hz := hQ2 () (by omega); exact ⟨hz.1, by omega⟩)) hw (lv_sub hl [0, 1] rfl)
            · skip
              exact absurd c_284 (by decide)
          · skip
            have tc_283 := ti_eq c_283
            refine lv_aload_n G0.1 G0.2.1 dX12_readValley_46 rfl (lv_at hl 1 rfl) ?_
            refine py_calli hw (va_runV (As := []) (rest := []) G0 (c_X12_look l E G L_259 f_260 H_261.size u gb nb (mi f_260 u 3) hG hWF Tu (show 0 ≤ mi f_260 u 3 ∧ mi f_260 u 3 ≤ mi f_260 u 2 by omega) (show mi f_260 u 3 = (mi f_260 u 3) by omega) (show mi f_260 u 2 = nb ∧ 0 ≤ (mi f_260 u 3) by omega) hMB) (cwV 0 G0.2.2.2.2 g_X12_readValley_X12_look_146 rfl rfl rfl (by decide +kernel) ⟨(Nat.le_of_ble_eq_true rfl), (Nat.le_of_ble_eq_true rfl)⟩) (py_preV hw (C := RX12) (T := TX12) (N := 54) rfl hr_275) rfl rfl hl.1 rfl (lv_room (Nat.le_of_ble_eq_true rfl)) dX12_readValley_47 ⟨(Nat.le_of_ble_eq_true rfl), (Nat.le_of_ble_eq_true rfl)⟩) (fun r_299 L_295 f_296 H_297 locs hp_298 hw => ?_)
            obtain ⟨en_300, en_301, en_302, en_303, hWF, kp_304, fk_305⟩ := hp_298
            have hMB := hMB.kp (kp_f kp_304 (wt12_1 hG Tu) (by decide) (by decide) (fun _ => by decide))
            have hRF : ImpP (mi f_296 u 4 = -1) (RFm f_296 G u (mi f_296 u 20)) := fun hw => (hRF (by first | (have hz := fk_mi fk_305 4 (by decide) (by decide); omega) | omega)).same (kp_f kp_304 (wt12_18 hG Tu) (by decide) (by decide) (fun _ => by decide)) (fk_mi fk_305 20 (by decide) (by decide))
            have hRC : ImpP (mi f_296 u 4 = -1) (RD f_296 G u (rv_cl gb nb sv pv).2) := fun hw => (hRC (by first | (have hz := fk_mi fk_305 4 (by decide) (by decide); omega) | omega)).same (fk_mi fk_305 19 (by decide) (by decide)) (fk_mi fk_305 20 (by decide) (by decide)) (kp_f kp_304 (wt12_17 hG Tu) (by decide) (by decide) (fun _ => by decide)) (kp_f kp_304 (wt12_18 hG Tu) (by decide) (by decide) (fun _ => by decide))
            have hFK := hFK.trans fk_305 (by decide)
            have hKP := hKP.trans kp_304 (by decide) (by decide)
            obtain ⟨v_306, hr_307⟩ := fk_3 hWF Tu fk_305 hr_275
            have tq_308 := mi_row hr_307 2 rfl
            have tq_309 := mi_row hr_307 3 rfl
            have bv_306 := wf_free v_306
            have tq_310 := mi_row hr_307 4 rfl
            have bv_272 := wf_free v_272
            have tq_311 := mi_row hr_307 19 rfl
            have tq_312 := mi_row hr_307 20 rfl
            have br_299 := wf_free r_299
            refine lv_bipush (v := 59) G0.1 G0.2.1 dX12_readValley_50 (by decide) ?_
            refine lv_icmp_ne (tgt := 59) G0.1 G0.2.1 dX12_readValley_52 (by decide) (fun c_313 => ?_) (fun c_313 => ?_)
            · skip
              have tc_313 := ti_ne c_313
              refine lv_iconst (v := 0) G0.1 G0.2.1 dX12_readValley_59 (by decide) ?_
              refine lv_istore_n (lv' := [(1, .int 0), (0, .ref u)]) G0.1 G0.2.1 dX12_readValley_60 rfl hl (by decide) rfl (fun ls hl => ?_)
              refine lv_aload_n G0.1 G0.2.1 dX12_readValley_61 rfl (lv_at hl 1 rfl) ?_
              refine lv_dup G0.1 G0.2.1 dX12_readValley_62 rfl ?_
              refine py_get (C := RX12) (T := TX12) (N := 54) (k := 3) (v := .int v_306) G0 hw in_X12_readValley_X12 rfl hr_307 (by decide) (by decide +kernel) rfl dX12_readValley_63 ?_
              refine lv_iload_n G0.1 G0.2.1 dX12_readValley_66 rfl (lv_at hl 0 rfl) ?_
              refine lv_if_eq (tgt := 74) G0.1 G0.2.1 dX12_readValley_67 (by decide) (fun c_314 => ?_) (fun c_314 => ?_)
              · skip
                have tc_314 := ti_eq c_314
                refine lv_iconst (v := 0) G0.1 G0.2.1 dX12_readValley_74 (by decide) ?_
                refine lv_iadd G0.1 G0.2.1 dX12_readValley_75 ?_
                refine lv_topi (fun x_315 ex_315 => ?_)
                first | have tx_315 := ti_add ex_315 (by omega -splitDisjunctions) (by omega -splitDisjunctions) | skip
                refine py_put (C := RX12) (T := TX12) (N := 54) (k := 3) (v := .int x_315) (fs' := [.int v_218, .ref (G.2 u 1), .int v_219, .int x_315, .int v_272, .int v_222, .ref (G.2 u 6), .ref (G.2 u 7), .ref (G.2 u 8), .ref (G.2 u 9), .ref (G.2 u 10), .ref (G.2 u 11), .ref (G.2 u 12), .int v_223, .int v_224, .ref (G.2 u 15), .ref (G.2 u 16), .ref (G.2 u 17), .ref (G.2 u 18), .int v_273, .int v_274, .ref (G.2 u 21), .ref (G.2 u 22), .ref (G.2 u 23), .int v_227, .int v_228, .ref (G.2 u 26), .ref (G.2 u 27), .ref (G.2 u 28), .int v_229, .long y_230, .int v_231, .int v_232, .int v_233, .int v_234, .ref (G.2 u 35), .ref (G.2 u 36), .ref (G.2 u 37), .ref (G.2 u 38), .ref (G.2 u 39), .ref (G.2 u 40), .ref (G.2 u 41), .ref (G.2 u 42), .int v_235, .ref (G.2 u 44), .ref (G.2 u 45), .ref (G.2 u 46), .ref (G.2 u 47), .long y_236, .ref (G.2 u 49), .ref (G.2 u 50), .int v_237, .long y_238, .int v_239]) (ty0 := tyX12) G0 hw tyX12_ok nmX12 in_X12_readValley_X12 rfl hr_307 (by decide) (by decide +kernel) rfl rfl rfl rfl (Nat.le_of_ble_eq_true rfl) rfl dX12_readValley_76 (fun f_316 H_317 locs h_318 x_319 hw => ?_)
                have hMB := hMB.kp (kp_f (KP.refl.upd hWF x_319 Tu (Or.inl (by decide)) : KP G [13] false f_296 f_316) (wt12_1 hG Tu) (by decide) (by decide) (fun _ => by decide))
                have hRF : ImpP (mi f_316 u 4 = -1) (RFm f_316 G u (mi f_316 u 20)) := fun hw => (hRF (by have z1 := mi_row hr_307 4 rfl; have z2 := mi_row h_318 4 rfl; omega)).same (x_319 _ (hWF _ (by rw [(wt12_18 hG Tu)]; decide)).1 (wf_ne (wt12_18 hG Tu) Tu (by decide))).2 (by have z1 := mi_row hr_307 20 rfl; have z2 := mi_row h_318 20 rfl; omega)
                have hRC : ImpP (mi f_316 u 4 = -1) (RD f_316 G u (rv_cl gb nb sv pv).2) := fun hw => (hRC (by have z1 := mi_row hr_307 4 rfl; have z2 := mi_row h_318 4 rfl; omega)).same (by have z1 := mi_row hr_307 19 rfl; have z2 := mi_row h_318 19 rfl; omega) (by have z1 := mi_row hr_307 20 rfl; have z2 := mi_row h_318 20 rfl; omega) (x_319 _ (hWF _ (by rw [wt12_17 hG Tu]; decide)).1 (wf_ne (wt12_17 hG Tu) Tu (by decide))).2 (x_319 _ (hWF _ (by rw [wt12_18 hG Tu]; decide)).1 (wf_ne (wt12_18 hG Tu) Tu (by decide))).2
                have hFK := hFK.put hr_307 h_318 3 (by decide) rfl
                have hKP := hKP.upd hWF x_319 Tu (Or.inl (by decide))
                have hWF := wf_upd hWF h_318 x_319 (by rw [Tu]; exact ⟨v_218, v_219, x_315, v_272, v_222, v_223, v_224, v_273, v_274, v_227, v_228, v_229, y_230, v_231, v_232, v_233, v_234, v_235, y_236, v_237, y_238, v_239, rfl, ⟨by omega, by omega⟩, ⟨by omega, by omega⟩, ⟨by omega, by omega⟩, ⟨by omega, by omega⟩, ⟨by omega, by omega⟩, ⟨by omega, by omega⟩, ⟨by omega, by omega⟩, ⟨by omega, by omega⟩, ⟨by omega, by omega⟩, ⟨by omega, by omega⟩, ⟨by omega, by omega⟩, ⟨by omega, by omega⟩⟩)
                have tq_320 := mi_row h_318 2 rfl
                have tq_321 := mi_row h_318 3 rfl
                have bx_315 := wf_free x_315
                have tq_322 := mi_row h_318 4 rfl
                have bv_272 := wf_free v_272
                have tq_323 := mi_row h_318 19 rfl
                have tq_324 := mi_row h_318 20 rfl
                refine lv_goto (tgt := 22) G0.1 G0.2.1 dX12_readValley_79 (by decide) ?_
                exact ih_22 ((mi f u 2 - mi f_316 u 3).toNat + (0 : Int32).toInt.toNat) (by omega) 0 L_295 f_316 _ _ ls rfl ⟨by omega, by omega⟩ hWF hKP hMB hFK hRF (by first | omega | (intros; omega)) (fun hw hm => by first | (exfalso; omega) | exact ⟨_, go_1 hgo (hQ1 () (by omega)) (by omega) (by omega) (by omega), hRC hw⟩) (fun hw hm => by first | (exfalso; omega) | (have hz := go_0 (b := mi f_316 u 3) hgo (hQ1 () (by omega)) (by omega) (by omega) (by omega); exact ⟨hz.1, by rw [hz.2]; exact hRC hw⟩)) (fun hw => by first | (exfalso; omega) | exact go_w hgo (by have hz := hQ2 () (by omega); exact ⟨hz.1, by omega⟩)) hw (lv_sub hl [0, 1] rfl)
              · skip
                exact absurd c_314 (by decide)
            · skip
              have tc_313 := ti_eq c_313
              replace en_301 := en_301 (by omega)
              refine lv_iconst (v := 1) G0.1 G0.2.1 dX12_readValley_55 (by decide) ?_
              refine lv_goto (tgt := 60) G0.1 G0.2.1 dX12_readValley_56 (by decide) ?_
              refine lv_istore_n (lv' := [(1, .int 1), (0, .ref u)]) G0.1 G0.2.1 dX12_readValley_60 rfl hl (by decide) rfl (fun ls hl => ?_)
              refine lv_aload_n G0.1 G0.2.1 dX12_readValley_61 rfl (lv_at hl 1 rfl) ?_
              refine lv_dup G0.1 G0.2.1 dX12_readValley_62 rfl ?_
              refine py_get (C := RX12) (T := TX12) (N := 54) (k := 3) (v := .int v_306) G0 hw in_X12_readValley_X12 rfl hr_307 (by decide) (by decide +kernel) rfl dX12_readValley_63 ?_
              refine lv_iload_n G0.1 G0.2.1 dX12_readValley_66 rfl (lv_at hl 0 rfl) ?_
              refine lv_if_eq (tgt := 74) G0.1 G0.2.1 dX12_readValley_67 (by decide) (fun c_325 => ?_) (fun c_325 => ?_)
              · skip
                exact absurd c_325 (by decide)
              · skip
                have tc_325 := ti_ne c_325
                refine lv_iconst (v := 1) G0.1 G0.2.1 dX12_readValley_70 (by decide) ?_
                refine lv_goto (tgt := 75) G0.1 G0.2.1 dX12_readValley_71 (by decide) ?_
                refine lv_iadd G0.1 G0.2.1 dX12_readValley_75 ?_
                refine lv_topi (fun x_326 ex_326 => ?_)
                first | have tx_326 := ti_add ex_326 (by omega -splitDisjunctions) (by omega -splitDisjunctions) | skip
                refine py_put (C := RX12) (T := TX12) (N := 54) (k := 3) (v := .int x_326) (fs' := [.int v_218, .ref (G.2 u 1), .int v_219, .int x_326, .int v_272, .int v_222, .ref (G.2 u 6), .ref (G.2 u 7), .ref (G.2 u 8), .ref (G.2 u 9), .ref (G.2 u 10), .ref (G.2 u 11), .ref (G.2 u 12), .int v_223, .int v_224, .ref (G.2 u 15), .ref (G.2 u 16), .ref (G.2 u 17), .ref (G.2 u 18), .int v_273, .int v_274, .ref (G.2 u 21), .ref (G.2 u 22), .ref (G.2 u 23), .int v_227, .int v_228, .ref (G.2 u 26), .ref (G.2 u 27), .ref (G.2 u 28), .int v_229, .long y_230, .int v_231, .int v_232, .int v_233, .int v_234, .ref (G.2 u 35), .ref (G.2 u 36), .ref (G.2 u 37), .ref (G.2 u 38), .ref (G.2 u 39), .ref (G.2 u 40), .ref (G.2 u 41), .ref (G.2 u 42), .int v_235, .ref (G.2 u 44), .ref (G.2 u 45), .ref (G.2 u 46), .ref (G.2 u 47), .long y_236, .ref (G.2 u 49), .ref (G.2 u 50), .int v_237, .long y_238, .int v_239]) (ty0 := tyX12) G0 hw tyX12_ok nmX12 in_X12_readValley_X12 rfl hr_307 (by decide) (by decide +kernel) rfl rfl rfl rfl (Nat.le_of_ble_eq_true rfl) rfl dX12_readValley_76 (fun f_327 H_328 locs h_329 x_330 hw => ?_)
                have hMB := hMB.kp (kp_f (KP.refl.upd hWF x_330 Tu (Or.inl (by decide)) : KP G [13] false f_296 f_327) (wt12_1 hG Tu) (by decide) (by decide) (fun _ => by decide))
                have hRF : ImpP (mi f_327 u 4 = -1) (RFm f_327 G u (mi f_327 u 20)) := fun hw => (hRF (by have z1 := mi_row hr_307 4 rfl; have z2 := mi_row h_329 4 rfl; omega)).same (x_330 _ (hWF _ (by rw [(wt12_18 hG Tu)]; decide)).1 (wf_ne (wt12_18 hG Tu) Tu (by decide))).2 (by have z1 := mi_row hr_307 20 rfl; have z2 := mi_row h_329 20 rfl; omega)
                have hRC : ImpP (mi f_327 u 4 = -1) (RD f_327 G u (rv_cl gb nb sv pv).2) := fun hw => (hRC (by have z1 := mi_row hr_307 4 rfl; have z2 := mi_row h_329 4 rfl; omega)).same (by have z1 := mi_row hr_307 19 rfl; have z2 := mi_row h_329 19 rfl; omega) (by have z1 := mi_row hr_307 20 rfl; have z2 := mi_row h_329 20 rfl; omega) (x_330 _ (hWF _ (by rw [wt12_17 hG Tu]; decide)).1 (wf_ne (wt12_17 hG Tu) Tu (by decide))).2 (x_330 _ (hWF _ (by rw [wt12_18 hG Tu]; decide)).1 (wf_ne (wt12_18 hG Tu) Tu (by decide))).2
                have hFK := hFK.put hr_307 h_329 3 (by decide) rfl
                have hKP := hKP.upd hWF x_330 Tu (Or.inl (by decide))
                have hWF := wf_upd hWF h_329 x_330 (by rw [Tu]; exact ⟨v_218, v_219, x_326, v_272, v_222, v_223, v_224, v_273, v_274, v_227, v_228, v_229, y_230, v_231, v_232, v_233, v_234, v_235, y_236, v_237, y_238, v_239, rfl, ⟨by omega, by omega⟩, ⟨by omega, by omega⟩, ⟨by omega, by omega⟩, ⟨by omega, by omega⟩, ⟨by omega, by omega⟩, ⟨by omega, by omega⟩, ⟨by omega, by omega⟩, ⟨by omega, by omega⟩, ⟨by omega, by omega⟩, ⟨by omega, by omega⟩, ⟨by omega, by omega⟩, ⟨by omega, by omega⟩⟩)
                have tq_331 := mi_row h_329 2 rfl
                have tq_332 := mi_row h_329 3 rfl
                have bx_326 := wf_free x_326
                have tq_333 := mi_row h_329 4 rfl
                have bv_272 := wf_free v_272
                have tq_334 := mi_row h_329 19 rfl
                have tq_335 := mi_row h_329 20 rfl
                refine lv_goto (tgt := 22) G0.1 G0.2.1 dX12_readValley_79 (by decide) ?_
                exact ih_22 ((mi f u 2 - mi f_327 u 3).toNat + (1 : Int32).toInt.toNat) (by omega) 1 L_295 f_327 _ _ ls rfl ⟨by omega, by omega⟩ hWF hKP hMB hFK hRF (by first | omega | (intros; omega)) (fun hw hm => by first | (exfalso; omega) | exact ⟨_, go_1 hgo (hQ1 () (by omega)) (by omega) (by omega) (by omega), hRC hw⟩) (fun hw hm => by first | (exfalso; omega) | (have hz := go_0 (b := mi f_327 u 3) hgo (hQ1 () (by omega)) (by omega) (by omega) (by omega); exact ⟨hz.1, by rw [hz.2]; exact hRC hw⟩)) (fun hw => by first | (exfalso; omega) | exact go_w hgo (by have hz := hQ2 () (by omega); exact ⟨hz.1, by omega⟩)) hw (lv_sub hl [0, 1] rfl)
  exact lo_22 _ 1 L f_68 _ _ ls rfl ⟨by omega, by omega⟩ hWF hKP hMB hFK hRF (by first | omega | (intros; omega)) (fun hw hm => ⟨rv_s0, by rw [show mi f_68 u 3 = 0 by omega], RD.zero (by omega) (by omega)⟩) (fun hw hm => absurd hm (by omega)) (fun hw => absurd (show mi f_68 u 4 = -1 by omega) hw) hw (lv_sub hl [0, 1] rfl)
