theorem dX12_readValley_0 : decode cX12_readValley 0 = .ok (.aload_n 0, 1) := by decide +kernel
theorem dX12_readValley_1 : decode cX12_readValley 1 = .ok (.iconst 0, 1) := by decide +kernel
theorem dX12_readValley_2 : decode cX12_readValley 2 = .ok (.putfield 127, 3) := by decide +kernel
theorem dX12_readValley_5 : decode cX12_readValley 5 = .ok (.aload_n 0, 1) := by decide +kernel
theorem dX12_readValley_6 : decode cX12_readValley 6 = .ok (.iconst (-1), 1) := by decide +kernel
theorem dX12_readValley_7 : decode cX12_readValley 7 = .ok (.putfield 134, 3) := by decide +kernel
theorem dX12_readValley_10 : decode cX12_readValley 10 = .ok (.aload_n 0, 1) := by decide +kernel
theorem dX12_readValley_11 : decode cX12_readValley 11 = .ok (.iconst 0, 1) := by decide +kernel
theorem dX12_readValley_12 : decode cX12_readValley 12 = .ok (.putfield 264, 3) := by decide +kernel
theorem dX12_readValley_15 : decode cX12_readValley 15 = .ok (.aload_n 0, 1) := by decide +kernel
theorem dX12_readValley_16 : decode cX12_readValley 16 = .ok (.iconst 0, 1) := by decide +kernel
theorem dX12_readValley_17 : decode cX12_readValley 17 = .ok (.putfield 267, 3) := by decide +kernel
theorem dX12_readValley_20 : decode cX12_readValley 20 = .ok (.iconst 1, 1) := by decide +kernel
theorem dX12_readValley_21 : decode cX12_readValley 21 = .ok (.istore_n 1, 1) := by decide +kernel
theorem dX12_readValley_22 : decode cX12_readValley 22 = .ok (.iload_n 1, 1) := by decide +kernel
theorem dX12_readValley_23 : decode cX12_readValley 23 = .ok (.ifCond .eq 59, 3) := by decide +kernel
theorem dX12_readValley_26 : decode cX12_readValley 26 = .ok (.aload_n 0, 1) := by decide +kernel
theorem dX12_readValley_27 : decode cX12_readValley 27 = .ok (.getfield 134, 3) := by decide +kernel
theorem dX12_readValley_30 : decode cX12_readValley 30 = .ok (.iconst (-1), 1) := by decide +kernel
theorem dX12_readValley_31 : decode cX12_readValley 31 = .ok (.if_icmp .ne 51, 3) := by decide +kernel
theorem dX12_readValley_34 : decode cX12_readValley 34 = .ok (.aload_n 0, 1) := by decide +kernel
theorem dX12_readValley_35 : decode cX12_readValley 35 = .ok (.invokevirtual 274, 3) := by decide +kernel
theorem dX12_readValley_38 : decode cX12_readValley 38 = .ok (.aload_n 0, 1) := by decide +kernel
theorem dX12_readValley_39 : decode cX12_readValley 39 = .ok (.getfield 134, 3) := by decide +kernel
theorem dX12_readValley_42 : decode cX12_readValley 42 = .ok (.iconst (-1), 1) := by decide +kernel
theorem dX12_readValley_43 : decode cX12_readValley 43 = .ok (.if_icmp .ne 16, 3) := by decide +kernel
theorem dX12_readValley_46 : decode cX12_readValley 46 = .ok (.aload_n 0, 1) := by decide +kernel
theorem dX12_readValley_47 : decode cX12_readValley 47 = .ok (.invokevirtual 146, 3) := by decide +kernel
theorem dX12_readValley_50 : decode cX12_readValley 50 = .ok (.bipush 59, 2) := by decide +kernel
theorem dX12_readValley_52 : decode cX12_readValley 52 = .ok (.if_icmp .ne 7, 3) := by decide +kernel
theorem dX12_readValley_55 : decode cX12_readValley 55 = .ok (.iconst 1, 1) := by decide +kernel
theorem dX12_readValley_56 : decode cX12_readValley 56 = .ok (.goto 4, 3) := by decide +kernel
theorem dX12_readValley_59 : decode cX12_readValley 59 = .ok (.iconst 0, 1) := by decide +kernel
theorem dX12_readValley_60 : decode cX12_readValley 60 = .ok (.istore_n 1, 1) := by decide +kernel
theorem dX12_readValley_61 : decode cX12_readValley 61 = .ok (.aload_n 0, 1) := by decide +kernel
theorem dX12_readValley_62 : decode cX12_readValley 62 = .ok (.dup, 1) := by decide +kernel
theorem dX12_readValley_63 : decode cX12_readValley 63 = .ok (.getfield 127, 3) := by decide +kernel
theorem dX12_readValley_66 : decode cX12_readValley 66 = .ok (.iload_n 1, 1) := by decide +kernel
theorem dX12_readValley_67 : decode cX12_readValley 67 = .ok (.ifCond .eq 7, 3) := by decide +kernel
theorem dX12_readValley_70 : decode cX12_readValley 70 = .ok (.iconst 1, 1) := by decide +kernel
theorem dX12_readValley_71 : decode cX12_readValley 71 = .ok (.goto 4, 3) := by decide +kernel
theorem dX12_readValley_74 : decode cX12_readValley 74 = .ok (.iconst 0, 1) := by decide +kernel
theorem dX12_readValley_75 : decode cX12_readValley 75 = .ok (.iadd, 1) := by decide +kernel
theorem dX12_readValley_76 : decode cX12_readValley 76 = .ok (.putfield 127, 3) := by decide +kernel
theorem dX12_readValley_79 : decode cX12_readValley 79 = .ok (.goto (-57), 3) := by decide +kernel
theorem dX12_readValley_82 : decode cX12_readValley 82 = .ok (.aload_n 0, 1) := by decide +kernel
theorem dX12_readValley_83 : decode cX12_readValley 83 = .ok (.getfield 134, 3) := by decide +kernel
theorem dX12_readValley_86 : decode cX12_readValley 86 = .ok (.iconst (-1), 1) := by decide +kernel
theorem dX12_readValley_87 : decode cX12_readValley 87 = .ok (.if_icmp .ne 37, 3) := by decide +kernel
theorem dX12_readValley_90 : decode cX12_readValley 90 = .ok (.aload_n 0, 1) := by decide +kernel
theorem dX12_readValley_91 : decode cX12_readValley 91 = .ok (.invokevirtual 146, 3) := by decide +kernel
theorem dX12_readValley_94 : decode cX12_readValley 94 = .ok (.iconst (-1), 1) := by decide +kernel
theorem dX12_readValley_95 : decode cX12_readValley 95 = .ok (.if_icmp .ne 25, 3) := by decide +kernel
theorem dX12_readValley_98 : decode cX12_readValley 98 = .ok (.aload_n 0, 1) := by decide +kernel
theorem dX12_readValley_99 : decode cX12_readValley 99 = .ok (.getfield 264, 3) := by decide +kernel
theorem dX12_readValley_102 : decode cX12_readValley 102 = .ok (.iconst 2, 1) := by decide +kernel
theorem dX12_readValley_103 : decode cX12_readValley 103 = .ok (.if_icmp .lt 17, 3) := by decide +kernel
theorem dX12_readValley_106 : decode cX12_readValley 106 = .ok (.aload_n 0, 1) := by decide +kernel
theorem dX12_readValley_107 : decode cX12_readValley 107 = .ok (.getfield 267, 3) := by decide +kernel
theorem dX12_readValley_110 : decode cX12_readValley 110 = .ok (.ifCond .eq 10, 3) := by decide +kernel
theorem dX12_readValley_113 : decode cX12_readValley 113 = .ok (.aload_n 0, 1) := by decide +kernel
theorem dX12_readValley_114 : decode cX12_readValley 114 = .ok (.invokevirtual 277, 3) := by decide +kernel
theorem dX12_readValley_117 : decode cX12_readValley 117 = .ok (.ifCond .ne 7, 3) := by decide +kernel
theorem dX12_readValley_120 : decode cX12_readValley 120 = .ok (.aload_n 0, 1) := by decide +kernel
theorem dX12_readValley_121 : decode cX12_readValley 121 = .ok (.invokevirtual 143, 3) := by decide +kernel
theorem dX12_readValley_124 : decode cX12_readValley 124 = .ok (.aload_n 0, 1) := by decide +kernel
theorem dX12_readValley_125 : decode cX12_readValley 125 = .ok (.getfield 134, 3) := by decide +kernel
theorem dX12_readValley_128 : decode cX12_readValley 128 = .ok (.ireturn, 1) := by decide +kernel
def w_X12_readValley : List Cond := .code yX12_readValley cX12_readValley 2 (some .int) :: ([Cond.fieldLink RX12 127 "HeadYearModel" "at" "I", Cond.fieldLink RX12 134 "HeadYearModel" "wrong" "I", Cond.fieldLink RX12 264 "HeadYearModel" "readLevels" "I", Cond.fieldLink RX12 267 "HeadYearModel" "readFamilies" "I", Cond.methodLink RX12 146 yX12_look, Cond.instanceMethod yX12_look, Cond.selects RX12 yX12_look yX12_look, Cond.initialized RX12, Cond.methodLink RX12 143 yX12_bad, Cond.instanceMethod yX12_bad, Cond.selects RX12 yX12_bad yX12_bad, Cond.methodLink RX12 277 yX12_areHoused, Cond.instanceMethod yX12_areHoused, Cond.selects RX12 yX12_areHoused yX12_areHoused, Cond.methodLink RX12 274 yX12_clauseText, Cond.instanceMethod yX12_clauseText, Cond.selects RX12 yX12_clauseText yX12_clauseText] ++ (u_ws RX12 TX12 54 ++ (w_X12_look ++ (w_X12_bad ++ (w_X12_areHoused ++ (w_X12_clauseText ++ ([])))))))
theorem in_X12_readValley_X12 : ∀ w ∈ u_ws RX12 TX12 54, w ∈ w_X12_readValley := fun _ h => List.mem_cons_of_mem _ (List.mem_append_right _ (List.mem_append_left _ h))
theorem gg_X12_readValley_X12_look : GoodIn w_X12_readValley w_X12_look := goodIn_sub (fun _ h => List.mem_cons_of_mem _ (List.mem_append_right _ (List.mem_append_right _ (List.mem_append_left _ h)))) (by decide +kernel)
theorem gg_X12_readValley_X12_bad : GoodIn w_X12_readValley w_X12_bad := goodIn_sub (fun _ h => List.mem_cons_of_mem _ (List.mem_append_right _ (List.mem_append_right _ (List.mem_append_right _ (List.mem_append_left _ h))))) (by decide +kernel)
theorem gg_X12_readValley_X12_areHoused : GoodIn w_X12_readValley w_X12_areHoused := goodIn_sub (fun _ h => List.mem_cons_of_mem _ (List.mem_append_right _ (List.mem_append_right _ (List.mem_append_right _ (List.mem_append_right _ (List.mem_append_left _ h)))))) (by decide +kernel)
theorem gg_X12_readValley_X12_clauseText : GoodIn w_X12_readValley w_X12_clauseText := goodIn_sub (fun _ h => List.mem_cons_of_mem _ (List.mem_append_right _ (List.mem_append_right _ (List.mem_append_right _ (List.mem_append_right _ (List.mem_append_right _ (List.mem_append_left _ h))))))) (by decide +kernel)
theorem g_X12_readValley_X12_areHoused_277 : GoodIn w_X12_readValley (wsV RX12 277 RX12 yX12_areHoused w_X12_areHoused) := goodIn_app (goodIn_of _ (by decide +kernel)) gg_X12_readValley_X12_areHoused
theorem g_X12_readValley_X12_bad_143 : GoodIn w_X12_readValley (wsV RX12 143 RX12 yX12_bad w_X12_bad) := goodIn_app (goodIn_of _ (by decide +kernel)) gg_X12_readValley_X12_bad
theorem g_X12_readValley_X12_clauseText_274 : GoodIn w_X12_readValley (wsV RX12 274 RX12 yX12_clauseText w_X12_clauseText) := goodIn_app (goodIn_of _ (by decide +kernel)) gg_X12_readValley_X12_clauseText
theorem g_X12_readValley_X12_look_146 : GoodIn w_X12_readValley (wsV RX12 146 RX12 yX12_look w_X12_look) := goodIn_app (goodIn_of _ (by decide +kernel)) gg_X12_readValley_X12_look
theorem fk_3_4_19_20 {E : py_E} {G : wf_G} {L L1 : List Nat} {f f1 : py_F} {m : Nat} (hWF : WF E G L1 f1) (Tm : G.1 m = 13) (h : FK [3, 4, 19, 20] f f1 m) {v0 : Int32} {v2 : Int32} {v3 : Int32} {v4 : Int32} {v5 : Int32} {v13 : Int32} {v14 : Int32} {v19 : Int32} {v20 : Int32} {v24 : Int32} {v25 : Int32} {v29 : Int32} {v30 : Int64} {v31 : Int32} {v32 : Int32} {v33 : Int32} {v34 : Int32} {v43 : Int32} {v48 : Int64} {v51 : Int32} {v52 : Int64} {v53 : Int32} (hr : py_at L f m (.inr (12, [.int v0, .ref (G.2 m 1), .int v2, .int v3, .int v4, .int v5, .ref (G.2 m 6), .ref (G.2 m 7), .ref (G.2 m 8), .ref (G.2 m 9), .ref (G.2 m 10), .ref (G.2 m 11), .ref (G.2 m 12), .int v13, .int v14, .ref (G.2 m 15), .ref (G.2 m 16), .ref (G.2 m 17), .ref (G.2 m 18), .int v19, .int v20, .ref (G.2 m 21), .ref (G.2 m 22), .ref (G.2 m 23), .int v24, .int v25, .ref (G.2 m 26), .ref (G.2 m 27), .ref (G.2 m 28), .int v29, .long v30, .int v31, .int v32, .int v33, .int v34, .ref (G.2 m 35), .ref (G.2 m 36), .ref (G.2 m 37), .ref (G.2 m 38), .ref (G.2 m 39), .ref (G.2 m 40), .ref (G.2 m 41), .ref (G.2 m 42), .int v43, .ref (G.2 m 44), .ref (G.2 m 45), .ref (G.2 m 46), .ref (G.2 m 47), .long v48, .ref (G.2 m 49), .ref (G.2 m 50), .int v51, .long v52, .int v53]))) : ∃ (w3 : Int32) (w4 : Int32) (w19 : Int32) (w20 : Int32), py_at L1 f1 m (.inr (12, [.int v0, .ref (G.2 m 1), .int v2, .int w3, .int w4, .int v5, .ref (G.2 m 6), .ref (G.2 m 7), .ref (G.2 m 8), .ref (G.2 m 9), .ref (G.2 m 10), .ref (G.2 m 11), .ref (G.2 m 12), .int v13, .int v14, .ref (G.2 m 15), .ref (G.2 m 16), .ref (G.2 m 17), .ref (G.2 m 18), .int w19, .int w20, .ref (G.2 m 21), .ref (G.2 m 22), .ref (G.2 m 23), .int v24, .int v25, .ref (G.2 m 26), .ref (G.2 m 27), .ref (G.2 m 28), .int v29, .long v30, .int v31, .int v32, .int v33, .int v34, .ref (G.2 m 35), .ref (G.2 m 36), .ref (G.2 m 37), .ref (G.2 m 38), .ref (G.2 m 39), .ref (G.2 m 40), .ref (G.2 m 41), .ref (G.2 m 42), .int v43, .ref (G.2 m 44), .ref (G.2 m 45), .ref (G.2 m 46), .ref (G.2 m 47), .long v48, .ref (G.2 m 49), .ref (G.2 m 50), .int v51, .long v52, .int v53])) ∧ (0 ≤ w19.toInt ∧ w19.toInt ≤ 8) ∧ (0 ≤ w20.toInt ∧ w20.toInt ≤ 10) := by
  obtain ⟨w0, w2, w3, w4, w5, w13, w14, w19, w20, w24, w25, w29, w30, w31, w32, w33, w34, w43, w48, w51, w52, w53, hr1, b2, b13, b14, b19, b20, b24, b25, b29, b31, b43, b51, b53⟩ := wg_12 hWF Tm
  have e0 : w0 = v0 := Value.int.inj (Option.some.inj (show some (Value.int w0) = some (Value.int v0) from fk_i h hr hr1 0 (by decide) (by decide)))
  subst e0
  have e2 : w2 = v2 := Value.int.inj (Option.some.inj (show some (Value.int w2) = some (Value.int v2) from fk_i h hr hr1 2 (by decide) (by decide)))
  subst e2
  have e5 : w5 = v5 := Value.int.inj (Option.some.inj (show some (Value.int w5) = some (Value.int v5) from fk_i h hr hr1 5 (by decide) (by decide)))
  subst e5
  have e13 : w13 = v13 := Value.int.inj (Option.some.inj (show some (Value.int w13) = some (Value.int v13) from fk_i h hr hr1 13 (by decide) (by decide)))
  subst e13
  have e14 : w14 = v14 := Value.int.inj (Option.some.inj (show some (Value.int w14) = some (Value.int v14) from fk_i h hr hr1 14 (by decide) (by decide)))
  subst e14
  have e24 : w24 = v24 := Value.int.inj (Option.some.inj (show some (Value.int w24) = some (Value.int v24) from fk_i h hr hr1 24 (by decide) (by decide)))
  subst e24
  have e25 : w25 = v25 := Value.int.inj (Option.some.inj (show some (Value.int w25) = some (Value.int v25) from fk_i h hr hr1 25 (by decide) (by decide)))
  subst e25
  have e29 : w29 = v29 := Value.int.inj (Option.some.inj (show some (Value.int w29) = some (Value.int v29) from fk_i h hr hr1 29 (by decide) (by decide)))
  subst e29
  have e30 : w30 = v30 := Value.long.inj (Option.some.inj (show some (Value.long w30) = some (Value.long v30) from fk_i h hr hr1 30 (by decide) (by decide)))
  subst e30
  have e31 : w31 = v31 := Value.int.inj (Option.some.inj (show some (Value.int w31) = some (Value.int v31) from fk_i h hr hr1 31 (by decide) (by decide)))
  subst e31
  have e32 : w32 = v32 := Value.int.inj (Option.some.inj (show some (Value.int w32) = some (Value.int v32) from fk_i h hr hr1 32 (by decide) (by decide)))
  subst e32
  have e33 : w33 = v33 := Value.int.inj (Option.some.inj (show some (Value.int w33) = some (Value.int v33) from fk_i h hr hr1 33 (by decide) (by decide)))
  subst e33
  have e34 : w34 = v34 := Value.int.inj (Option.some.inj (show some (Value.int w34) = some (Value.int v34) from fk_i h hr hr1 34 (by decide) (by decide)))
  subst e34
  have e43 : w43 = v43 := Value.int.inj (Option.some.inj (show some (Value.int w43) = some (Value.int v43) from fk_i h hr hr1 43 (by decide) (by decide)))
  subst e43
  have e48 : w48 = v48 := Value.long.inj (Option.some.inj (show some (Value.long w48) = some (Value.long v48) from fk_i h hr hr1 48 (by decide) (by decide)))
  subst e48
  have e51 : w51 = v51 := Value.int.inj (Option.some.inj (show some (Value.int w51) = some (Value.int v51) from fk_i h hr hr1 51 (by decide) (by decide)))
  subst e51
  have e52 : w52 = v52 := Value.long.inj (Option.some.inj (show some (Value.long w52) = some (Value.long v52) from fk_i h hr hr1 52 (by decide) (by decide)))
  subst e52
  have e53 : w53 = v53 := Value.int.inj (Option.some.inj (show some (Value.int w53) = some (Value.int v53) from fk_i h hr hr1 53 (by decide) (by decide)))
  subst e53
  exact ⟨w3, w4, w19, w20, hr1, b19, b20⟩
set_option maxHeartbeats 4000000 in
set_option maxRecDepth 100000 in
theorem c_X12_readValley (l : Launch) (E : py_E) (G : wf_G) (L : List Nat) (f : py_F) (sz : Nat) (u : Nat) (gb : rs_B) (nb : Int) (hG : GT G) (hWF : WF E G L f) (Tu : G.1 u = 13) (hp0 : mi f u 2 = nb) (hq0 : AG f (G.2 u 1) gb nb) (hq1 : rs_nn gb nb) : Met l yX12_readValley w_X12_readValley ({ frames := 5, cells := 0, slots := 0, locals := 111 }) (py_Pc E [.ref u] L f sz) (py_Qi E L f sz (fun r L1 f1 => (r.toInt = -1 → RFm f1 G u (mi f1 u 20)) ∧ (RVF gb nb r.toInt) ∧ (r.toInt = -1 → 1 ≤ mi f1 u 20) ∧ (r.toInt = -1 → mi f1 u 20 = rv_fm gb nb) ∧ WF E G L1 f1 ∧ KP G [50, 51, 13] false f f1 ∧ FK [3, 4, 19, 20] f f1 u)) 0 0 (va_A (va_pl L f) sz) := by
  refine Met.ofW (cc := cX12_readValley) (maxL := 2) (ret := (some .int)) (by decide) rfl ?_
  intro p e s m args below meth c s₁ B hml hv
  obtain ⟨rfl, rfl, hw⟩ := py_start hv
  have G0 : CallFix p m c cX12_readValley 2 s _ w_X12_readValley RX12 := ⟨B.exec, B.bytes, hml, findClass_of_methodNamed B.named, atoms_spec (ws := w_X12_readValley) B.pre⟩
  have hr := B.returns
  have hlk := B.notSynchronized
  have kcm1 : (-1 : Int32).toInt = -1 := rfl
  have kc0 : (0 : Int32).toInt = 0 := rfl
  have kc1 : (1 : Int32).toInt = 1 := rfl
  have kc2 : (2 : Int32).toInt = 2 := rfl
  have kc59 : (59 : Int32).toInt = 59 := rfl
  have hl := lv_entry ([.ref u]) (n := 2) (Nat.le_of_ble_eq_true rfl)
  rw [lg_entry_eq]
  generalize (lg_sl ([.ref u]) ++ List.replicate (2 - (lg_sl ([.ref u])).length) Slot.unset).toArray = ls at hl ⊢
  have hl : lv_has ls 2 [(0, .ref u)] := hl
  have hFK : FK [3, 4, 19, 20] f f u := FK.refl
  have hKP : KP G [50, 51, 13] false f f := KP.refl
  have hMB := hq0
  refine lv_aload_n G0.1 G0.2.1 dX12_readValley_0 rfl (lv_at hl 0 rfl) ?_
  refine lv_iconst (v := 0) G0.1 G0.2.1 dX12_readValley_1 (by decide) ?_
  obtain ⟨v_1, v_2, v_3, v_4, v_5, v_6, v_7, v_8, v_9, v_10, v_11, v_12, y_13, v_14, v_15, v_16, v_17, v_18, y_19, v_20, y_21, v_22, hr_35, b_23, b_24, b_25, b_26, b_27, b_28, b_29, b_30, b_31, b_32, b_33, b_34⟩ := wg_12 hWF Tu
  have tq_36 := mi_row hr_35 2 rfl
  have tq_37 := mi_row hr_35 3 rfl
  have bv_3 := wf_free v_3
  have tq_38 := mi_row hr_35 4 rfl
  have bv_4 := wf_free v_4
  have tq_39 := mi_row hr_35 19 rfl
  have tq_40 := mi_row hr_35 20 rfl
  refine py_put (C := RX12) (T := TX12) (N := 54) (k := 3) (v := .int 0) (fs' := [.int v_1, .ref (G.2 u 1), .int v_2, .int 0, .int v_4, .int v_5, .ref (G.2 u 6), .ref (G.2 u 7), .ref (G.2 u 8), .ref (G.2 u 9), .ref (G.2 u 10), .ref (G.2 u 11), .ref (G.2 u 12), .int v_6, .int v_7, .ref (G.2 u 15), .ref (G.2 u 16), .ref (G.2 u 17), .ref (G.2 u 18), .int v_8, .int v_9, .ref (G.2 u 21), .ref (G.2 u 22), .ref (G.2 u 23), .int v_10, .int v_11, .ref (G.2 u 26), .ref (G.2 u 27), .ref (G.2 u 28), .int v_12, .long y_13, .int v_14, .int v_15, .int v_16, .int v_17, .ref (G.2 u 35), .ref (G.2 u 36), .ref (G.2 u 37), .ref (G.2 u 38), .ref (G.2 u 39), .ref (G.2 u 40), .ref (G.2 u 41), .ref (G.2 u 42), .int v_18, .ref (G.2 u 44), .ref (G.2 u 45), .ref (G.2 u 46), .ref (G.2 u 47), .long y_19, .ref (G.2 u 49), .ref (G.2 u 50), .int v_20, .long y_21, .int v_22]) (ty0 := tyX12) G0 hw tyX12_ok nmX12 in_X12_readValley_X12 rfl hr_35 (by decide) (by decide +kernel) rfl rfl rfl rfl (Nat.le_of_ble_eq_true rfl) rfl dX12_readValley_2 (fun f_41 H_42 locs h_43 x_44 hw => ?_)
  have hMB := hMB.kp (kp_f (KP.refl.upd hWF x_44 Tu (Or.inl (by decide)) : KP G [13] false f f_41) (wt12_1 hG Tu) (by decide) (by decide) (fun _ => by decide))
  have hFK := hFK.put hr_35 h_43 3 (by decide) rfl
  have hKP := hKP.upd hWF x_44 Tu (Or.inl (by decide))
  have hWF := wf_upd hWF h_43 x_44 (by rw [Tu]; exact ⟨v_1, v_2, 0, v_4, v_5, v_6, v_7, v_8, v_9, v_10, v_11, v_12, y_13, v_14, v_15, v_16, v_17, v_18, y_19, v_20, y_21, v_22, rfl, ⟨by omega, by omega⟩, ⟨by omega, by omega⟩, ⟨by omega, by omega⟩, ⟨by omega, by omega⟩, ⟨by omega, by omega⟩, ⟨by omega, by omega⟩, ⟨by omega, by omega⟩, ⟨by omega, by omega⟩, ⟨by omega, by omega⟩, ⟨by omega, by omega⟩, ⟨by omega, by omega⟩, ⟨by omega, by omega⟩⟩)
  have tq_45 := mi_row h_43 2 rfl
  have tq_46 := mi_row h_43 3 rfl
  have tq_47 := mi_row h_43 4 rfl
  have bv_4 := wf_free v_4
  have tq_48 := mi_row h_43 19 rfl
  have tq_49 := mi_row h_43 20 rfl
  refine lv_aload_n G0.1 G0.2.1 dX12_readValley_5 rfl (lv_at hl 0 rfl) ?_
  refine lv_iconst (v := (-1)) G0.1 G0.2.1 dX12_readValley_6 (by decide) ?_
  refine py_put (C := RX12) (T := TX12) (N := 54) (k := 4) (v := .int (-1)) (fs' := [.int v_1, .ref (G.2 u 1), .int v_2, .int 0, .int (-1), .int v_5, .ref (G.2 u 6), .ref (G.2 u 7), .ref (G.2 u 8), .ref (G.2 u 9), .ref (G.2 u 10), .ref (G.2 u 11), .ref (G.2 u 12), .int v_6, .int v_7, .ref (G.2 u 15), .ref (G.2 u 16), .ref (G.2 u 17), .ref (G.2 u 18), .int v_8, .int v_9, .ref (G.2 u 21), .ref (G.2 u 22), .ref (G.2 u 23), .int v_10, .int v_11, .ref (G.2 u 26), .ref (G.2 u 27), .ref (G.2 u 28), .int v_12, .long y_13, .int v_14, .int v_15, .int v_16, .int v_17, .ref (G.2 u 35), .ref (G.2 u 36), .ref (G.2 u 37), .ref (G.2 u 38), .ref (G.2 u 39), .ref (G.2 u 40), .ref (G.2 u 41), .ref (G.2 u 42), .int v_18, .ref (G.2 u 44), .ref (G.2 u 45), .ref (G.2 u 46), .ref (G.2 u 47), .long y_19, .ref (G.2 u 49), .ref (G.2 u 50), .int v_20, .long y_21, .int v_22]) (ty0 := tyX12) G0 hw tyX12_ok nmX12 in_X12_readValley_X12 rfl h_43 (by decide) (by decide +kernel) rfl rfl rfl rfl (Nat.le_of_ble_eq_true rfl) rfl dX12_readValley_7 (fun f_50 H_51 locs h_52 x_53 hw => ?_)
  have hMB := hMB.kp (kp_f (KP.refl.upd hWF x_53 Tu (Or.inl (by decide)) : KP G [13] false f_41 f_50) (wt12_1 hG Tu) (by decide) (by decide) (fun _ => by decide))
  have hFK := hFK.put h_43 h_52 4 (by decide) rfl
  have hKP := hKP.upd hWF x_53 Tu (Or.inl (by decide))
  have hWF := wf_upd hWF h_52 x_53 (by rw [Tu]; exact ⟨v_1, v_2, 0, (-1), v_5, v_6, v_7, v_8, v_9, v_10, v_11, v_12, y_13, v_14, v_15, v_16, v_17, v_18, y_19, v_20, y_21, v_22, rfl, ⟨by omega, by omega⟩, ⟨by omega, by omega⟩, ⟨by omega, by omega⟩, ⟨by omega, by omega⟩, ⟨by omega, by omega⟩, ⟨by omega, by omega⟩, ⟨by omega, by omega⟩, ⟨by omega, by omega⟩, ⟨by omega, by omega⟩, ⟨by omega, by omega⟩, ⟨by omega, by omega⟩, ⟨by omega, by omega⟩⟩)
  have tq_54 := mi_row h_52 2 rfl
  have tq_55 := mi_row h_52 3 rfl
  have tq_56 := mi_row h_52 4 rfl
  have tq_57 := mi_row h_52 19 rfl
  have tq_58 := mi_row h_52 20 rfl
  refine lv_aload_n G0.1 G0.2.1 dX12_readValley_10 rfl (lv_at hl 0 rfl) ?_
  refine lv_iconst (v := 0) G0.1 G0.2.1 dX12_readValley_11 (by decide) ?_
  refine py_put (C := RX12) (T := TX12) (N := 54) (k := 19) (v := .int 0) (fs' := [.int v_1, .ref (G.2 u 1), .int v_2, .int 0, .int (-1), .int v_5, .ref (G.2 u 6), .ref (G.2 u 7), .ref (G.2 u 8), .ref (G.2 u 9), .ref (G.2 u 10), .ref (G.2 u 11), .ref (G.2 u 12), .int v_6, .int v_7, .ref (G.2 u 15), .ref (G.2 u 16), .ref (G.2 u 17), .ref (G.2 u 18), .int 0, .int v_9, .ref (G.2 u 21), .ref (G.2 u 22), .ref (G.2 u 23), .int v_10, .int v_11, .ref (G.2 u 26), .ref (G.2 u 27), .ref (G.2 u 28), .int v_12, .long y_13, .int v_14, .int v_15, .int v_16, .int v_17, .ref (G.2 u 35), .ref (G.2 u 36), .ref (G.2 u 37), .ref (G.2 u 38), .ref (G.2 u 39), .ref (G.2 u 40), .ref (G.2 u 41), .ref (G.2 u 42), .int v_18, .ref (G.2 u 44), .ref (G.2 u 45), .ref (G.2 u 46), .ref (G.2 u 47), .long y_19, .ref (G.2 u 49), .ref (G.2 u 50), .int v_20, .long y_21, .int v_22]) (ty0 := tyX12) G0 hw tyX12_ok nmX12 in_X12_readValley_X12 rfl h_52 (by decide) (by decide +kernel) rfl rfl rfl rfl (Nat.le_of_ble_eq_true rfl) rfl dX12_readValley_12 (fun f_59 H_60 locs h_61 x_62 hw => ?_)
  have hMB := hMB.kp (kp_f (KP.refl.upd hWF x_62 Tu (Or.inl (by decide)) : KP G [13] false f_50 f_59) (wt12_1 hG Tu) (by decide) (by decide) (fun _ => by decide))
  have hFK := hFK.put h_52 h_61 19 (by decide) rfl
  have hKP := hKP.upd hWF x_62 Tu (Or.inl (by decide))
  have hWF := wf_upd hWF h_61 x_62 (by rw [Tu]; exact ⟨v_1, v_2, 0, (-1), v_5, v_6, v_7, 0, v_9, v_10, v_11, v_12, y_13, v_14, v_15, v_16, v_17, v_18, y_19, v_20, y_21, v_22, rfl, ⟨by omega, by omega⟩, ⟨by omega, by omega⟩, ⟨by omega, by omega⟩, ⟨by omega, by omega⟩, ⟨by omega, by omega⟩, ⟨by omega, by omega⟩, ⟨by omega, by omega⟩, ⟨by omega, by omega⟩, ⟨by omega, by omega⟩, ⟨by omega, by omega⟩, ⟨by omega, by omega⟩, ⟨by omega, by omega⟩⟩)
  have tq_63 := mi_row h_61 2 rfl
  have tq_64 := mi_row h_61 3 rfl
  have tq_65 := mi_row h_61 4 rfl
  have tq_66 := mi_row h_61 19 rfl
  have tq_67 := mi_row h_61 20 rfl
  refine lv_aload_n G0.1 G0.2.1 dX12_readValley_15 rfl (lv_at hl 0 rfl) ?_
  refine lv_iconst (v := 0) G0.1 G0.2.1 dX12_readValley_16 (by decide) ?_
  refine py_put (C := RX12) (T := TX12) (N := 54) (k := 20) (v := .int 0) (fs' := [.int v_1, .ref (G.2 u 1), .int v_2, .int 0, .int (-1), .int v_5, .ref (G.2 u 6), .ref (G.2 u 7), .ref (G.2 u 8), .ref (G.2 u 9), .ref (G.2 u 10), .ref (G.2 u 11), .ref (G.2 u 12), .int v_6, .int v_7, .ref (G.2 u 15), .ref (G.2 u 16), .ref (G.2 u 17), .ref (G.2 u 18), .int 0, .int 0, .ref (G.2 u 21), .ref (G.2 u 22), .ref (G.2 u 23), .int v_10, .int v_11, .ref (G.2 u 26), .ref (G.2 u 27), .ref (G.2 u 28), .int v_12, .long y_13, .int v_14, .int v_15, .int v_16, .int v_17, .ref (G.2 u 35), .ref (G.2 u 36), .ref (G.2 u 37), .ref (G.2 u 38), .ref (G.2 u 39), .ref (G.2 u 40), .ref (G.2 u 41), .ref (G.2 u 42), .int v_18, .ref (G.2 u 44), .ref (G.2 u 45), .ref (G.2 u 46), .ref (G.2 u 47), .long y_19, .ref (G.2 u 49), .ref (G.2 u 50), .int v_20, .long y_21, .int v_22]) (ty0 := tyX12) G0 hw tyX12_ok nmX12 in_X12_readValley_X12 rfl h_61 (by decide) (by decide +kernel) rfl rfl rfl rfl (Nat.le_of_ble_eq_true rfl) rfl dX12_readValley_17 (fun f_68 H_69 locs h_70 x_71 hw => ?_)
  have hMB := hMB.kp (kp_f (KP.refl.upd hWF x_71 Tu (Or.inl (by decide)) : KP G [13] false f_59 f_68) (wt12_1 hG Tu) (by decide) (by decide) (fun _ => by decide))
  have hFK := hFK.put h_61 h_70 20 (by decide) rfl
  have hKP := hKP.upd hWF x_71 Tu (Or.inl (by decide))
  have hWF := wf_upd hWF h_70 x_71 (by rw [Tu]; exact ⟨v_1, v_2, 0, (-1), v_5, v_6, v_7, 0, 0, v_10, v_11, v_12, y_13, v_14, v_15, v_16, v_17, v_18, y_19, v_20, y_21, v_22, rfl, ⟨by omega, by omega⟩, ⟨by omega, by omega⟩, ⟨by omega, by omega⟩, ⟨by omega, by omega⟩, ⟨by omega, by omega⟩, ⟨by omega, by omega⟩, ⟨by omega, by omega⟩, ⟨by omega, by omega⟩, ⟨by omega, by omega⟩, ⟨by omega, by omega⟩, ⟨by omega, by omega⟩, ⟨by omega, by omega⟩⟩)
  have tq_72 := mi_row h_70 2 rfl
  have tq_73 := mi_row h_70 3 rfl
  have tq_74 := mi_row h_70 4 rfl
  have tq_75 := mi_row h_70 19 rfl
  have tq_76 := mi_row h_70 20 rfl
  have hRF : mi f_68 u 4 = -1 → RFm f_68 G u (mi f_68 u 20) := fun _ => RFm.zero (by omega)
  refine lv_iconst (v := 1) G0.1 G0.2.1 dX12_readValley_20 (by decide) ?_
  refine lv_istore_n (lv' := [(1, .int 1), (0, .ref u)]) G0.1 G0.2.1 dX12_readValley_21 rfl hl (by decide) rfl (fun ls hl => ?_)
  have lo_22 : ∀ n_22 : Nat, ∀ (v_77 : Int32) (L_j22 : List Nat) (f_j22 : py_F) (H_j22 : Heap) (locs : List Loc) (ls : Array Slot), (mi f u 2 - mi f_j22 u 3).toNat + v_77.toInt.toNat = n_22 → (0 ≤ v_77.toInt ∧ v_77.toInt ≤ 1) → WF E G L_j22 f_j22 → KP G [50, 51, 13] false f f_j22 → AG f_j22 (G.2 u 1) gb nb → FK [3, 4, 19, 20] f f_j22 u → (mi f_j22 u 4 = -1 → RFm f_j22 G u (mi f_j22 u 20)) → (0 ≤ mi f_j22 u 3 ∧ mi f_j22 u 2 = mi f u 2 ∧ mi f_j22 u 3 ≤ mi f u 2) → (mi f_j22 u 4 = -1 → v_77.toInt = 1 → GOX gb nb f_j22 G u (mi f_j22 u 3)) → (mi f_j22 u 4 = -1 → v_77.toInt = 0 → CE gb nb (rv_go gb nb rv_s0 0) (mi f_j22 u 3) ∧ RD f_j22 G u (rv_go gb nb rv_s0 0).2) → (mi f_j22 u 4 ≠ -1 → (rv_go gb nb rv_s0 0).1.1 = 0 ∧ mi f_j22 u 4 = (rv_go gb nb rv_s0 0).1.2) → py_W E (va_A (va_pl L f) s.heap.size) s L_j22 f_j22 H_j22 locs → lv_has ls 2 [(1, .int v_77), (0, .ref u)] → W p l e (headSpec w_X12_readValley ({ frames := 5, cells := 0, slots := 0, locals := 111 })).room s m ([.ref u] : List Value).toArray below meth c H_j22 locs 0 0 (MQ below (py_Qi E L f s.heap.size (fun r L1 f1 => (r.toInt = -1 → RFm f1 G u (mi f1 u 20)) ∧ (RVF gb nb r.toInt) ∧ (r.toInt = -1 → 1 ≤ mi f1 u 20) ∧ (r.toInt = -1 → mi f1 u 20 = rv_fm gb nb) ∧ WF E G L1 f1 ∧ KP G [50, 51, 13] false f f1 ∧ FK [3, 4, 19, 20] f f1 u)) ([.ref u] : List Value).toArray s 0 0 (va_A (va_pl L f) s.heap.size)) (F0 m 22 ls []) := by
    intro n_22
    induction n_22 using Nat.strongRecOn with
    | _ n_22 ih_22 =>
      intro v_77 L_j22 f_j22 H_j22 locs ls hn_22 bv_77 hWF hKP hMB hFK hRF iv0 iv1 iv2 iv3 hw hl
      refine lv_iload_n G0.1 G0.2.1 dX12_readValley_22 rfl (lv_at hl 0 rfl) ?_
      refine lv_if_eq (tgt := 82) G0.1 G0.2.1 dX12_readValley_23 (by decide) (fun c_78 => ?_) (fun c_78 => ?_)
      · skip
        have tc_78 := ti_eq c_78
        refine lv_aload_n G0.1 G0.2.1 dX12_readValley_82 rfl (lv_at hl 1 rfl) ?_
        obtain ⟨v_79, v_80, v_81, v_82, v_83, v_84, v_85, v_86, v_87, v_88, v_89, v_90, y_91, v_92, v_93, v_94, v_95, v_96, y_97, v_98, y_99, v_100, hr_113, b_101, b_102, b_103, b_104, b_105, b_106, b_107, b_108, b_109, b_110, b_111, b_112⟩ := wg_12 hWF Tu
        have tq_114 := mi_row hr_113 2 rfl
        have tq_115 := mi_row hr_113 3 rfl
        have bv_81 := wf_free v_81
        have tq_116 := mi_row hr_113 4 rfl
        have bv_82 := wf_free v_82
        have tq_117 := mi_row hr_113 19 rfl
        have tq_118 := mi_row hr_113 20 rfl
        refine py_get (C := RX12) (T := TX12) (N := 54) (k := 4) (v := .int v_82) G0 hw in_X12_readValley_X12 rfl hr_113 (by decide) (by decide +kernel) rfl dX12_readValley_83 ?_
        refine lv_iconst (v := (-1)) G0.1 G0.2.1 dX12_readValley_86 (by decide) ?_
        refine lv_icmp_ne (tgt := 124) G0.1 G0.2.1 dX12_readValley_87 (by decide) (fun c_119 => ?_) (fun c_119 => ?_)
        · skip
          have tc_119 := ti_ne c_119
          refine lv_aload_n G0.1 G0.2.1 dX12_readValley_124 rfl (lv_at hl 1 rfl) ?_
          refine py_get (C := RX12) (T := TX12) (N := 54) (k := 4) (v := .int v_82) G0 hw in_X12_readValley_X12 rfl hr_113 (by decide) (by decide +kernel) rfl dX12_readValley_125 ?_
          exact py_iret G0 hr rfl hlk hw ⟨(fun hr => hRF (by omega)), (RVF_w0 (by have hz := iv3 (by omega); exact ⟨hz.1, by omega⟩)), (by first | omega | (intro q; omega)), (fun hr => by first | exact (hRE (by omega)).1.2 | (exfalso; omega)), hWF, hKP, hFK⟩ dX12_readValley_128
        · skip
          have tc_119 := ti_eq c_119
          have hCE := iv2 (by omega) (by omega)
          have hRE : mi f_j22 u 4 = -1 → RD f_j22 G u (rv_go gb nb rv_s0 0).2 := fun _ => hCE.2
          have hRE1 := hCE.2.1
          clear iv1 iv2 iv3
          refine lv_aload_n G0.1 G0.2.1 dX12_readValley_90 rfl (lv_at hl 1 rfl) ?_
          refine py_calli hw (va_runV (As := []) (rest := []) G0 (c_X12_look l E G L_j22 f_j22 H_j22.size u gb nb (mi f_j22 u 3) hG hWF Tu (show 0 ≤ mi f_j22 u 3 ∧ mi f_j22 u 3 ≤ mi f_j22 u 2 by omega) (show mi f_j22 u 3 = (mi f_j22 u 3) by omega) (show mi f_j22 u 2 = nb ∧ 0 ≤ (mi f_j22 u 3) by omega) hMB) (cwV 0 G0.2.2.2.2 g_X12_readValley_X12_look_146 rfl rfl rfl (by decide +kernel) ⟨(Nat.le_of_ble_eq_true rfl), (Nat.le_of_ble_eq_true rfl)⟩) (py_preV hw (C := RX12) (T := TX12) (N := 54) rfl hr_113) rfl rfl hl.1 rfl (lv_room (Nat.le_of_ble_eq_true rfl)) dX12_readValley_91 ⟨(Nat.le_of_ble_eq_true rfl), (Nat.le_of_ble_eq_true rfl)⟩) (fun r_124 L_120 f_121 H_122 locs hp_123 hw => ?_)
          obtain ⟨en_125, en_126, en_127, en_128, hWF, kp_129, fk_130⟩ := hp_123
          have hMB := hMB.kp (kp_f kp_129 (wt12_1 hG Tu) (by decide) (by decide) (fun _ => by decide))
          have hRF : mi f_121 u 4 = -1 → RFm f_121 G u (mi f_121 u 20) := fun hw => (hRF (by first | (have hz := fk_mi fk_130 4 (by decide) (by decide); omega) | omega)).same (kp_f kp_129 (wt12_18 hG Tu) (by decide) (by decide) (fun _ => by decide)) (fk_mi fk_130 20 (by decide) (by decide))
          have hRE : mi f_121 u 4 = -1 → RD f_121 G u (rv_go gb nb rv_s0 0).2 := fun hw => (hRE (by first | (have hz := fk_mi fk_130 4 (by decide) (by decide); omega) | omega)).same (fk_mi fk_130 19 (by decide) (by decide)) (fk_mi fk_130 20 (by decide) (by decide)) (kp_f kp_129 (wt12_17 hG Tu) (by decide) (by decide) (fun _ => by decide)) (kp_f kp_129 (wt12_18 hG Tu) (by decide) (by decide) (fun _ => by decide))
          have hFK := hFK.trans fk_130 (by decide)
          have hKP := hKP.trans kp_129 (by decide) (by decide)
          obtain ⟨v_131, hr_132⟩ := fk_3 hWF Tu fk_130 hr_113
          have tq_133 := mi_row hr_132 2 rfl
          have tq_134 := mi_row hr_132 3 rfl
          have bv_131 := wf_free v_131
          have tq_135 := mi_row hr_132 4 rfl
          have bv_82 := wf_free v_82
          have tq_136 := mi_row hr_132 19 rfl
          have tq_137 := mi_row hr_132 20 rfl
          have hnn : rs_sk gb nb (mi f_j22 u 3) < nb → 0 ≤ rs_v gb nb (rs_sk gb nb (mi f_j22 u 3)) := fun hl => hq1 _ (by omega) hl
          have br_124 := wf_free r_124
          refine lv_iconst (v := (-1)) G0.1 G0.2.1 dX12_readValley_94 (by decide) ?_
          refine lv_icmp_ne (tgt := 120) G0.1 G0.2.1 dX12_readValley_95 (by decide) (fun c_138 => ?_) (fun c_138 => ?_)
          · skip
            have tc_138 := ti_ne c_138
            replace en_126 := en_126 (by omega)
            refine lv_aload_n G0.1 G0.2.1 dX12_readValley_120 rfl (lv_at hl 1 rfl) ?_
            refine py_callv hw (va_runV (As := []) (rest := []) G0 (c_X12_bad l E G L_120 f_121 H_122.size u hG hWF Tu (show 0 ≤ mi f_121 u 3 by omega)) (cwV 0 G0.2.2.2.2 g_X12_readValley_X12_bad_143 rfl rfl rfl (by decide +kernel) ⟨(Nat.le_of_ble_eq_true rfl), (Nat.le_of_ble_eq_true rfl)⟩) (py_preV hw (C := RX12) (T := TX12) (N := 54) rfl hr_132) rfl rfl hl.1 rfl (lv_room (Nat.le_of_ble_eq_true rfl)) dX12_readValley_121 ⟨(Nat.le_of_ble_eq_true rfl), (Nat.le_of_ble_eq_true rfl)⟩) (fun L_139 f_140 H_141 locs hp_142 hw => ?_)
            obtain ⟨en_144, en_145, en_146, hWF, kp_147, fk_148⟩ := hp_142
            have hMB := hMB.kp (kp_f kp_147 (wt12_1 hG Tu) (by decide) (by decide) (fun _ => by decide))
            have hRF : mi f_140 u 4 = -1 → RFm f_140 G u (mi f_140 u 20) := fun hw => (hRF (by first | (have hz := fk_mi fk_148 4 (by decide) (by decide); omega) | omega)).same (kp_f kp_147 (wt12_18 hG Tu) (by decide) (by decide) (fun _ => by decide)) (fk_mi fk_148 20 (by decide) (by decide))
            have hRE : mi f_140 u 4 = -1 → RD f_140 G u (rv_go gb nb rv_s0 0).2 := fun hw => (hRE (by first | (have hz := fk_mi fk_148 4 (by decide) (by decide); omega) | omega)).same (fk_mi fk_148 19 (by decide) (by decide)) (fk_mi fk_148 20 (by decide) (by decide)) (kp_f kp_147 (wt12_17 hG Tu) (by decide) (by decide) (fun _ => by decide)) (kp_f kp_147 (wt12_18 hG Tu) (by decide) (by decide) (fun _ => by decide))
            have hFK := hFK.trans fk_148 (by decide)
            have hKP := hKP.trans kp_147 (by decide) (by decide)
            obtain ⟨v_149, hr_150⟩ := fk_4 hWF Tu fk_148 hr_132
            have tq_151 := mi_row hr_150 2 rfl
            have tq_152 := mi_row hr_150 3 rfl
            have bv_131 := wf_free v_131
            have tq_153 := mi_row hr_150 4 rfl
            have bv_149 := wf_free v_149
            have tq_154 := mi_row hr_150 19 rfl
            have tq_155 := mi_row hr_150 20 rfl
            refine lv_aload_n G0.1 G0.2.1 dX12_readValley_124 rfl (lv_at hl 1 rfl) ?_
            refine py_get (C := RX12) (T := TX12) (N := 54) (k := 4) (v := .int v_149) G0 hw in_X12_readValley_X12 rfl hr_150 (by decide) (by decide +kernel) rfl dX12_readValley_125 ?_
            exact py_iret G0 hr rfl hlk hw ⟨(fun hr => hRF (by omega)), (by first | exact RVF_b hCE.1 (by omega) (by omega) | exact RVF_m hCE.1 (by omega) (by omega) (fun hd => by have hz1 := hd.1; have hz2 := hd.2.1; omega) (by omega)), (by first | omega | (intro q; omega)), (fun hr => by first | exact (hRE (by omega)).1.2 | (exfalso; omega)), hWF, hKP, hFK⟩ dX12_readValley_128
          · skip
            have tc_138 := ti_eq c_138
            clear en_126
            refine lv_aload_n G0.1 G0.2.1 dX12_readValley_98 rfl (lv_at hl 1 rfl) ?_
            refine py_get (C := RX12) (T := TX12) (N := 54) (k := 19) (v := .int v_86) G0 hw in_X12_readValley_X12 rfl hr_132 (by decide) (by decide +kernel) rfl dX12_readValley_99 ?_
            refine lv_iconst (v := 2) G0.1 G0.2.1 dX12_readValley_102 (by decide) ?_
            refine lv_icmp_lt (tgt := 120) G0.1 G0.2.1 dX12_readValley_103 (by decide) (fun c_156 => ?_) (fun c_156 => ?_)
            · skip
              have tc_156 := ti_lt c_156
              refine lv_aload_n G0.1 G0.2.1 dX12_readValley_120 rfl (lv_at hl 1 rfl) ?_
              refine py_callv hw (va_runV (As := []) (rest := []) G0 (c_X12_bad l E G L_120 f_121 H_122.size u hG hWF Tu (show 0 ≤ mi f_121 u 3 by omega)) (cwV 0 G0.2.2.2.2 g_X12_readValley_X12_bad_143 rfl rfl rfl (by decide +kernel) ⟨(Nat.le_of_ble_eq_true rfl), (Nat.le_of_ble_eq_true rfl)⟩) (py_preV hw (C := RX12) (T := TX12) (N := 54) rfl hr_132) rfl rfl hl.1 rfl (lv_room (Nat.le_of_ble_eq_true rfl)) dX12_readValley_121 ⟨(Nat.le_of_ble_eq_true rfl), (Nat.le_of_ble_eq_true rfl)⟩) (fun L_157 f_158 H_159 locs hp_160 hw => ?_)
              obtain ⟨en_162, en_163, en_164, hWF, kp_165, fk_166⟩ := hp_160
              have hMB := hMB.kp (kp_f kp_165 (wt12_1 hG Tu) (by decide) (by decide) (fun _ => by decide))
              have hRF : mi f_158 u 4 = -1 → RFm f_158 G u (mi f_158 u 20) := fun hw => (hRF (by first | (have hz := fk_mi fk_166 4 (by decide) (by decide); omega) | omega)).same (kp_f kp_165 (wt12_18 hG Tu) (by decide) (by decide) (fun _ => by decide)) (fk_mi fk_166 20 (by decide) (by decide))
              have hRE : mi f_158 u 4 = -1 → RD f_158 G u (rv_go gb nb rv_s0 0).2 := fun hw => (hRE (by first | (have hz := fk_mi fk_166 4 (by decide) (by decide); omega) | omega)).same (fk_mi fk_166 19 (by decide) (by decide)) (fk_mi fk_166 20 (by decide) (by decide)) (kp_f kp_165 (wt12_17 hG Tu) (by decide) (by decide) (fun _ => by decide)) (kp_f kp_165 (wt12_18 hG Tu) (by decide) (by decide) (fun _ => by decide))
              have hFK := hFK.trans fk_166 (by decide)
              have hKP := hKP.trans kp_165 (by decide) (by decide)
              obtain ⟨v_167, hr_168⟩ := fk_4 hWF Tu fk_166 hr_132
              have tq_169 := mi_row hr_168 2 rfl
              have tq_170 := mi_row hr_168 3 rfl
              have bv_131 := wf_free v_131
              have tq_171 := mi_row hr_168 4 rfl
              have bv_167 := wf_free v_167
              have tq_172 := mi_row hr_168 19 rfl
              have tq_173 := mi_row hr_168 20 rfl
              refine lv_aload_n G0.1 G0.2.1 dX12_readValley_124 rfl (lv_at hl 1 rfl) ?_
              refine py_get (C := RX12) (T := TX12) (N := 54) (k := 4) (v := .int v_167) G0 hw in_X12_readValley_X12 rfl hr_168 (by decide) (by decide +kernel) rfl dX12_readValley_125 ?_
              exact py_iret G0 hr rfl hlk hw ⟨(fun hr => hRF (by omega)), (by first | exact RVF_b hCE.1 (by omega) (by omega) | exact RVF_m hCE.1 (by omega) (by omega) (fun hd => by have hz1 := hd.1; have hz2 := hd.2.1; omega) (by omega)), (by first | omega | (intro q; omega)), (fun hr => by first | exact (hRE (by omega)).1.2 | (exfalso; omega)), hWF, hKP, hFK⟩ dX12_readValley_128
            · skip
              have tc_156 := ti_nlt c_156
              refine lv_aload_n G0.1 G0.2.1 dX12_readValley_106 rfl (lv_at hl 1 rfl) ?_
              refine py_get (C := RX12) (T := TX12) (N := 54) (k := 20) (v := .int v_87) G0 hw in_X12_readValley_X12 rfl hr_132 (by decide) (by decide +kernel) rfl dX12_readValley_107 ?_
              refine lv_if_eq (tgt := 120) G0.1 G0.2.1 dX12_readValley_110 (by decide) (fun c_174 => ?_) (fun c_174 => ?_)
              · skip
                have tc_174 := ti_eq c_174
                refine lv_aload_n G0.1 G0.2.1 dX12_readValley_120 rfl (lv_at hl 1 rfl) ?_
                refine py_callv hw (va_runV (As := []) (rest := []) G0 (c_X12_bad l E G L_120 f_121 H_122.size u hG hWF Tu (show 0 ≤ mi f_121 u 3 by omega)) (cwV 0 G0.2.2.2.2 g_X12_readValley_X12_bad_143 rfl rfl rfl (by decide +kernel) ⟨(Nat.le_of_ble_eq_true rfl), (Nat.le_of_ble_eq_true rfl)⟩) (py_preV hw (C := RX12) (T := TX12) (N := 54) rfl hr_132) rfl rfl hl.1 rfl (lv_room (Nat.le_of_ble_eq_true rfl)) dX12_readValley_121 ⟨(Nat.le_of_ble_eq_true rfl), (Nat.le_of_ble_eq_true rfl)⟩) (fun L_175 f_176 H_177 locs hp_178 hw => ?_)
                obtain ⟨en_180, en_181, en_182, hWF, kp_183, fk_184⟩ := hp_178
                have hMB := hMB.kp (kp_f kp_183 (wt12_1 hG Tu) (by decide) (by decide) (fun _ => by decide))
                have hRF : mi f_176 u 4 = -1 → RFm f_176 G u (mi f_176 u 20) := fun hw => (hRF (by first | (have hz := fk_mi fk_184 4 (by decide) (by decide); omega) | omega)).same (kp_f kp_183 (wt12_18 hG Tu) (by decide) (by decide) (fun _ => by decide)) (fk_mi fk_184 20 (by decide) (by decide))
                have hRE : mi f_176 u 4 = -1 → RD f_176 G u (rv_go gb nb rv_s0 0).2 := fun hw => (hRE (by first | (have hz := fk_mi fk_184 4 (by decide) (by decide); omega) | omega)).same (fk_mi fk_184 19 (by decide) (by decide)) (fk_mi fk_184 20 (by decide) (by decide)) (kp_f kp_183 (wt12_17 hG Tu) (by decide) (by decide) (fun _ => by decide)) (kp_f kp_183 (wt12_18 hG Tu) (by decide) (by decide) (fun _ => by decide))
                have hFK := hFK.trans fk_184 (by decide)
                have hKP := hKP.trans kp_183 (by decide) (by decide)
                obtain ⟨v_185, hr_186⟩ := fk_4 hWF Tu fk_184 hr_132
                have tq_187 := mi_row hr_186 2 rfl
                have tq_188 := mi_row hr_186 3 rfl
                have bv_131 := wf_free v_131
                have tq_189 := mi_row hr_186 4 rfl
                have bv_185 := wf_free v_185
                have tq_190 := mi_row hr_186 19 rfl
                have tq_191 := mi_row hr_186 20 rfl
                refine lv_aload_n G0.1 G0.2.1 dX12_readValley_124 rfl (lv_at hl 1 rfl) ?_
                refine py_get (C := RX12) (T := TX12) (N := 54) (k := 4) (v := .int v_185) G0 hw in_X12_readValley_X12 rfl hr_186 (by decide) (by decide +kernel) rfl dX12_readValley_125 ?_
                exact py_iret G0 hr rfl hlk hw ⟨(fun hr => hRF (by omega)), (by first | exact RVF_b hCE.1 (by omega) (by omega) | exact RVF_m hCE.1 (by omega) (by omega) (fun hd => by have hz1 := hd.1; have hz2 := hd.2.1; omega) (by omega)), (by first | omega | (intro q; omega)), (fun hr => by first | exact (hRE (by omega)).1.2 | (exfalso; omega)), hWF, hKP, hFK⟩ dX12_readValley_128
              · skip
                have tc_174 := ti_ne c_174
                have hah := ah_hd (hRE (by omega)) (by omega) (by omega) (by omega)
                refine lv_aload_n G0.1 G0.2.1 dX12_readValley_113 rfl (lv_at hl 1 rfl) ?_
                refine py_calli hw (va_runV (As := []) (rest := []) G0 (c_X12_areHoused l E G L_120 f_121 H_122.size u (rv_go gb nb rv_s0 0).2 hG hWF Tu (hRE (by omega))) (cwV 0 G0.2.2.2.2 g_X12_readValley_X12_areHoused_277 rfl rfl rfl (by decide +kernel) ⟨(Nat.le_of_ble_eq_true rfl), (Nat.le_of_ble_eq_true rfl)⟩) (py_preV hw (C := RX12) (T := TX12) (N := 54) rfl hr_132) rfl rfl hl.1 rfl (lv_room (Nat.le_of_ble_eq_true rfl)) dX12_readValley_114 ⟨(Nat.le_of_ble_eq_true rfl), (Nat.le_of_ble_eq_true rfl)⟩) (fun r_196 L_192 f_193 H_194 locs hp_195 hw => ?_)
                obtain ⟨b_199, en_197, en_198, rfl, rfl⟩ := hp_195
                refine lv_if_ne (tgt := 124) G0.1 G0.2.1 dX12_readValley_117 (by decide) (fun c_200 => ?_) (fun c_200 => ?_)
                · skip
                  have tc_200 := ti_ne c_200
                  refine lv_aload_n G0.1 G0.2.1 dX12_readValley_124 rfl (lv_at hl 1 rfl) ?_
                  refine py_get (C := RX12) (T := TX12) (N := 54) (k := 4) (v := .int v_82) G0 hw in_X12_readValley_X12 rfl hr_132 (by decide) (by decide +kernel) rfl dX12_readValley_125 ?_
                  exact py_iret G0 hr rfl hlk hw ⟨(fun hr => hRF (by omega)), (by first | exact RVF_h hCE.1 (by omega) (by omega) (hah.mp (en_197 (by omega))) (by omega) | exact RVF_m hCE.1 (by omega) (by omega) (fun hd => en_198 (by omega) (hah.mpr hd)) (by omega)), (by first | omega | (intro q; omega)), (fun hr => by first | exact (hRE (by omega)).1.2 | (exfalso; omega)), hWF, hKP, hFK⟩ dX12_readValley_128
                · skip
                  have tc_200 := ti_eq c_200
                  refine lv_aload_n G0.1 G0.2.1 dX12_readValley_120 rfl (lv_at hl 1 rfl) ?_
                  refine py_callv hw (va_runV (As := []) (rest := []) G0 (c_X12_bad l E G L_120 f_121 H_194.size u hG hWF Tu (show 0 ≤ mi f_121 u 3 by omega)) (cwV 0 G0.2.2.2.2 g_X12_readValley_X12_bad_143 rfl rfl rfl (by decide +kernel) ⟨(Nat.le_of_ble_eq_true rfl), (Nat.le_of_ble_eq_true rfl)⟩) (py_preV hw (C := RX12) (T := TX12) (N := 54) rfl hr_132) rfl rfl hl.1 rfl (lv_room (Nat.le_of_ble_eq_true rfl)) dX12_readValley_121 ⟨(Nat.le_of_ble_eq_true rfl), (Nat.le_of_ble_eq_true rfl)⟩) (fun L_201 f_202 H_203 locs hp_204 hw => ?_)
                  obtain ⟨en_206, en_207, en_208, hWF, kp_209, fk_210⟩ := hp_204
                  have hMB := hMB.kp (kp_f kp_209 (wt12_1 hG Tu) (by decide) (by decide) (fun _ => by decide))
                  have hRF : mi f_202 u 4 = -1 → RFm f_202 G u (mi f_202 u 20) := fun hw => (hRF (by first | (have hz := fk_mi fk_210 4 (by decide) (by decide); omega) | omega)).same (kp_f kp_209 (wt12_18 hG Tu) (by decide) (by decide) (fun _ => by decide)) (fk_mi fk_210 20 (by decide) (by decide))
                  have hRE : mi f_202 u 4 = -1 → RD f_202 G u (rv_go gb nb rv_s0 0).2 := fun hw => (hRE (by first | (have hz := fk_mi fk_210 4 (by decide) (by decide); omega) | omega)).same (fk_mi fk_210 19 (by decide) (by decide)) (fk_mi fk_210 20 (by decide) (by decide)) (kp_f kp_209 (wt12_17 hG Tu) (by decide) (by decide) (fun _ => by decide)) (kp_f kp_209 (wt12_18 hG Tu) (by decide) (by decide) (fun _ => by decide))
                  have hFK := hFK.trans fk_210 (by decide)
                  have hKP := hKP.trans kp_209 (by decide) (by decide)
                  obtain ⟨v_211, hr_212⟩ := fk_4 hWF Tu fk_210 hr_132
                  have tq_213 := mi_row hr_212 2 rfl
                  have tq_214 := mi_row hr_212 3 rfl
                  have bv_131 := wf_free v_131
                  have tq_215 := mi_row hr_212 4 rfl
                  have bv_211 := wf_free v_211
                  have tq_216 := mi_row hr_212 19 rfl
                  have tq_217 := mi_row hr_212 20 rfl
                  refine lv_aload_n G0.1 G0.2.1 dX12_readValley_124 rfl (lv_at hl 1 rfl) ?_
                  refine py_get (C := RX12) (T := TX12) (N := 54) (k := 4) (v := .int v_211) G0 hw in_X12_readValley_X12 rfl hr_212 (by decide) (by decide +kernel) rfl dX12_readValley_125 ?_
                  exact py_iret G0 hr rfl hlk hw ⟨(fun hr => hRF (by omega)), (by first | exact RVF_h hCE.1 (by omega) (by omega) (hah.mp (en_197 (by omega))) (by omega) | exact RVF_m hCE.1 (by omega) (by omega) (fun hd => en_198 (by omega) (hah.mpr hd)) (by omega)), (by first | omega | (intro q; omega)), (fun hr => by first | exact (hRE (by omega)).1.2 | (exfalso; omega)), hWF, hKP, hFK⟩ dX12_readValley_128
      · skip
        have tc_78 := ti_ne c_78
        refine lv_aload_n G0.1 G0.2.1 dX12_readValley_26 rfl (lv_at hl 1 rfl) ?_
        obtain ⟨v_218, v_219, v_220, v_221, v_222, v_223, v_224, v_225, v_226, v_227, v_228, v_229, y_230, v_231, v_232, v_233, v_234, v_235, y_236, v_237, y_238, v_239, hr_252, b_240, b_241, b_242, b_243, b_244, b_245, b_246, b_247, b_248, b_249, b_250, b_251⟩ := wg_12 hWF Tu
        have tq_253 := mi_row hr_252 2 rfl
        have tq_254 := mi_row hr_252 3 rfl
        have bv_220 := wf_free v_220
        have tq_255 := mi_row hr_252 4 rfl
        have bv_221 := wf_free v_221
        have tq_256 := mi_row hr_252 19 rfl
        have tq_257 := mi_row hr_252 20 rfl
        refine py_get (C := RX12) (T := TX12) (N := 54) (k := 4) (v := .int v_221) G0 hw in_X12_readValley_X12 rfl hr_252 (by decide) (by decide +kernel) rfl dX12_readValley_27 ?_
        refine lv_iconst (v := (-1)) G0.1 G0.2.1 dX12_readValley_30 (by decide) ?_
        refine lv_icmp_ne (tgt := 82) G0.1 G0.2.1 dX12_readValley_31 (by decide) (fun c_258 => ?_) (fun c_258 => ?_)
        · skip
          have tc_258 := ti_ne c_258
          refine lv_aload_n G0.1 G0.2.1 dX12_readValley_82 rfl (lv_at hl 1 rfl) ?_
          refine py_get (C := RX12) (T := TX12) (N := 54) (k := 4) (v := .int v_221) G0 hw in_X12_readValley_X12 rfl hr_252 (by decide) (by decide +kernel) rfl dX12_readValley_83 ?_
          refine lv_iconst (v := (-1)) G0.1 G0.2.1 dX12_readValley_86 (by decide) ?_
          refine lv_icmp_ne (tgt := 124) G0.1 G0.2.1 dX12_readValley_87 (by decide) (fun c_259 => ?_) (fun c_259 => ?_)
          · skip
            have tc_259 := ti_ne c_259
            refine lv_aload_n G0.1 G0.2.1 dX12_readValley_124 rfl (lv_at hl 1 rfl) ?_
            refine py_get (C := RX12) (T := TX12) (N := 54) (k := 4) (v := .int v_221) G0 hw in_X12_readValley_X12 rfl hr_252 (by decide) (by decide +kernel) rfl dX12_readValley_125 ?_
            exact py_iret G0 hr rfl hlk hw ⟨(fun hr => hRF (by omega)), (RVF_w0 (by have hz := iv3 (by omega); exact ⟨hz.1, by omega⟩)), (by first | omega | (intro q; omega)), (fun hr => by first | exact (hRE (by omega)).1.2 | (exfalso; omega)), hWF, hKP, hFK⟩ dX12_readValley_128
          · skip
            have tc_259 := ti_eq c_259
            have hCE := iv2 (by omega) (by omega)
            have hRE : mi f_j22 u 4 = -1 → RD f_j22 G u (rv_go gb nb rv_s0 0).2 := fun _ => hCE.2
            have hRE1 := hCE.2.1
            clear iv1 iv2 iv3
            refine lv_aload_n G0.1 G0.2.1 dX12_readValley_90 rfl (lv_at hl 1 rfl) ?_
            refine py_calli hw (va_runV (As := []) (rest := []) G0 (c_X12_look l E G L_j22 f_j22 H_j22.size u gb nb (mi f_j22 u 3) hG hWF Tu (show 0 ≤ mi f_j22 u 3 ∧ mi f_j22 u 3 ≤ mi f_j22 u 2 by omega) (show mi f_j22 u 3 = (mi f_j22 u 3) by omega) (show mi f_j22 u 2 = nb ∧ 0 ≤ (mi f_j22 u 3) by omega) hMB) (cwV 0 G0.2.2.2.2 g_X12_readValley_X12_look_146 rfl rfl rfl (by decide +kernel) ⟨(Nat.le_of_ble_eq_true rfl), (Nat.le_of_ble_eq_true rfl)⟩) (py_preV hw (C := RX12) (T := TX12) (N := 54) rfl hr_252) rfl rfl hl.1 rfl (lv_room (Nat.le_of_ble_eq_true rfl)) dX12_readValley_91 ⟨(Nat.le_of_ble_eq_true rfl), (Nat.le_of_ble_eq_true rfl)⟩) (fun r_264 L_260 f_261 H_262 locs hp_263 hw => ?_)
            obtain ⟨en_265, en_266, en_267, en_268, hWF, kp_269, fk_270⟩ := hp_263
            have hMB := hMB.kp (kp_f kp_269 (wt12_1 hG Tu) (by decide) (by decide) (fun _ => by decide))
            have hRF : mi f_261 u 4 = -1 → RFm f_261 G u (mi f_261 u 20) := fun hw => (hRF (by first | (have hz := fk_mi fk_270 4 (by decide) (by decide); omega) | omega)).same (kp_f kp_269 (wt12_18 hG Tu) (by decide) (by decide) (fun _ => by decide)) (fk_mi fk_270 20 (by decide) (by decide))
            have hRE : mi f_261 u 4 = -1 → RD f_261 G u (rv_go gb nb rv_s0 0).2 := fun hw => (hRE (by first | (have hz := fk_mi fk_270 4 (by decide) (by decide); omega) | omega)).same (fk_mi fk_270 19 (by decide) (by decide)) (fk_mi fk_270 20 (by decide) (by decide)) (kp_f kp_269 (wt12_17 hG Tu) (by decide) (by decide) (fun _ => by decide)) (kp_f kp_269 (wt12_18 hG Tu) (by decide) (by decide) (fun _ => by decide))
            have hFK := hFK.trans fk_270 (by decide)
            have hKP := hKP.trans kp_269 (by decide) (by decide)
            obtain ⟨v_271, hr_272⟩ := fk_3 hWF Tu fk_270 hr_252
            have tq_273 := mi_row hr_272 2 rfl
            have tq_274 := mi_row hr_272 3 rfl
            have bv_271 := wf_free v_271
            have tq_275 := mi_row hr_272 4 rfl
            have bv_221 := wf_free v_221
            have tq_276 := mi_row hr_272 19 rfl
            have tq_277 := mi_row hr_272 20 rfl
            have hnn : rs_sk gb nb (mi f_j22 u 3) < nb → 0 ≤ rs_v gb nb (rs_sk gb nb (mi f_j22 u 3)) := fun hl => hq1 _ (by omega) hl
            have br_264 := wf_free r_264
            refine lv_iconst (v := (-1)) G0.1 G0.2.1 dX12_readValley_94 (by decide) ?_
            refine lv_icmp_ne (tgt := 120) G0.1 G0.2.1 dX12_readValley_95 (by decide) (fun c_278 => ?_) (fun c_278 => ?_)
            · skip
              have tc_278 := ti_ne c_278
              replace en_266 := en_266 (by omega)
              refine lv_aload_n G0.1 G0.2.1 dX12_readValley_120 rfl (lv_at hl 1 rfl) ?_
              refine py_callv hw (va_runV (As := []) (rest := []) G0 (c_X12_bad l E G L_260 f_261 H_262.size u hG hWF Tu (show 0 ≤ mi f_261 u 3 by omega)) (cwV 0 G0.2.2.2.2 g_X12_readValley_X12_bad_143 rfl rfl rfl (by decide +kernel) ⟨(Nat.le_of_ble_eq_true rfl), (Nat.le_of_ble_eq_true rfl)⟩) (py_preV hw (C := RX12) (T := TX12) (N := 54) rfl hr_272) rfl rfl hl.1 rfl (lv_room (Nat.le_of_ble_eq_true rfl)) dX12_readValley_121 ⟨(Nat.le_of_ble_eq_true rfl), (Nat.le_of_ble_eq_true rfl)⟩) (fun L_279 f_280 H_281 locs hp_282 hw => ?_)
              obtain ⟨en_284, en_285, en_286, hWF, kp_287, fk_288⟩ := hp_282
              have hMB := hMB.kp (kp_f kp_287 (wt12_1 hG Tu) (by decide) (by decide) (fun _ => by decide))
              have hRF : mi f_280 u 4 = -1 → RFm f_280 G u (mi f_280 u 20) := fun hw => (hRF (by first | (have hz := fk_mi fk_288 4 (by decide) (by decide); omega) | omega)).same (kp_f kp_287 (wt12_18 hG Tu) (by decide) (by decide) (fun _ => by decide)) (fk_mi fk_288 20 (by decide) (by decide))
              have hRE : mi f_280 u 4 = -1 → RD f_280 G u (rv_go gb nb rv_s0 0).2 := fun hw => (hRE (by first | (have hz := fk_mi fk_288 4 (by decide) (by decide); omega) | omega)).same (fk_mi fk_288 19 (by decide) (by decide)) (fk_mi fk_288 20 (by decide) (by decide)) (kp_f kp_287 (wt12_17 hG Tu) (by decide) (by decide) (fun _ => by decide)) (kp_f kp_287 (wt12_18 hG Tu) (by decide) (by decide) (fun _ => by decide))
              have hFK := hFK.trans fk_288 (by decide)
              have hKP := hKP.trans kp_287 (by decide) (by decide)
              obtain ⟨v_289, hr_290⟩ := fk_4 hWF Tu fk_288 hr_272
              have tq_291 := mi_row hr_290 2 rfl
              have tq_292 := mi_row hr_290 3 rfl
              have bv_271 := wf_free v_271
              have tq_293 := mi_row hr_290 4 rfl
              have bv_289 := wf_free v_289
              have tq_294 := mi_row hr_290 19 rfl
              have tq_295 := mi_row hr_290 20 rfl
              refine lv_aload_n G0.1 G0.2.1 dX12_readValley_124 rfl (lv_at hl 1 rfl) ?_
              refine py_get (C := RX12) (T := TX12) (N := 54) (k := 4) (v := .int v_289) G0 hw in_X12_readValley_X12 rfl hr_290 (by decide) (by decide +kernel) rfl dX12_readValley_125 ?_
              exact py_iret G0 hr rfl hlk hw ⟨(fun hr => hRF (by omega)), (by first | exact RVF_b hCE.1 (by omega) (by omega) | exact RVF_m hCE.1 (by omega) (by omega) (fun hd => by have hz1 := hd.1; have hz2 := hd.2.1; omega) (by omega)), (by first | omega | (intro q; omega)), (fun hr => by first | exact (hRE (by omega)).1.2 | (exfalso; omega)), hWF, hKP, hFK⟩ dX12_readValley_128
            · skip
              have tc_278 := ti_eq c_278
              clear en_266
              refine lv_aload_n G0.1 G0.2.1 dX12_readValley_98 rfl (lv_at hl 1 rfl) ?_
              refine py_get (C := RX12) (T := TX12) (N := 54) (k := 19) (v := .int v_225) G0 hw in_X12_readValley_X12 rfl hr_272 (by decide) (by decide +kernel) rfl dX12_readValley_99 ?_
              refine lv_iconst (v := 2) G0.1 G0.2.1 dX12_readValley_102 (by decide) ?_
              refine lv_icmp_lt (tgt := 120) G0.1 G0.2.1 dX12_readValley_103 (by decide) (fun c_296 => ?_) (fun c_296 => ?_)
              · skip
                have tc_296 := ti_lt c_296
                refine lv_aload_n G0.1 G0.2.1 dX12_readValley_120 rfl (lv_at hl 1 rfl) ?_
                refine py_callv hw (va_runV (As := []) (rest := []) G0 (c_X12_bad l E G L_260 f_261 H_262.size u hG hWF Tu (show 0 ≤ mi f_261 u 3 by omega)) (cwV 0 G0.2.2.2.2 g_X12_readValley_X12_bad_143 rfl rfl rfl (by decide +kernel) ⟨(Nat.le_of_ble_eq_true rfl), (Nat.le_of_ble_eq_true rfl)⟩) (py_preV hw (C := RX12) (T := TX12) (N := 54) rfl hr_272) rfl rfl hl.1 rfl (lv_room (Nat.le_of_ble_eq_true rfl)) dX12_readValley_121 ⟨(Nat.le_of_ble_eq_true rfl), (Nat.le_of_ble_eq_true rfl)⟩) (fun L_297 f_298 H_299 locs hp_300 hw => ?_)
                obtain ⟨en_302, en_303, en_304, hWF, kp_305, fk_306⟩ := hp_300
                have hMB := hMB.kp (kp_f kp_305 (wt12_1 hG Tu) (by decide) (by decide) (fun _ => by decide))
                have hRF : mi f_298 u 4 = -1 → RFm f_298 G u (mi f_298 u 20) := fun hw => (hRF (by first | (have hz := fk_mi fk_306 4 (by decide) (by decide); omega) | omega)).same (kp_f kp_305 (wt12_18 hG Tu) (by decide) (by decide) (fun _ => by decide)) (fk_mi fk_306 20 (by decide) (by decide))
                have hRE : mi f_298 u 4 = -1 → RD f_298 G u (rv_go gb nb rv_s0 0).2 := fun hw => (hRE (by first | (have hz := fk_mi fk_306 4 (by decide) (by decide); omega) | omega)).same (fk_mi fk_306 19 (by decide) (by decide)) (fk_mi fk_306 20 (by decide) (by decide)) (kp_f kp_305 (wt12_17 hG Tu) (by decide) (by decide) (fun _ => by decide)) (kp_f kp_305 (wt12_18 hG Tu) (by decide) (by decide) (fun _ => by decide))
                have hFK := hFK.trans fk_306 (by decide)
                have hKP := hKP.trans kp_305 (by decide) (by decide)
                obtain ⟨v_307, hr_308⟩ := fk_4 hWF Tu fk_306 hr_272
                have tq_309 := mi_row hr_308 2 rfl
                have tq_310 := mi_row hr_308 3 rfl
                have bv_271 := wf_free v_271
                have tq_311 := mi_row hr_308 4 rfl
                have bv_307 := wf_free v_307
                have tq_312 := mi_row hr_308 19 rfl
                have tq_313 := mi_row hr_308 20 rfl
                refine lv_aload_n G0.1 G0.2.1 dX12_readValley_124 rfl (lv_at hl 1 rfl) ?_
                refine py_get (C := RX12) (T := TX12) (N := 54) (k := 4) (v := .int v_307) G0 hw in_X12_readValley_X12 rfl hr_308 (by decide) (by decide +kernel) rfl dX12_readValley_125 ?_
                exact py_iret G0 hr rfl hlk hw ⟨(fun hr => hRF (by omega)), (by first | exact RVF_b hCE.1 (by omega) (by omega) | exact RVF_m hCE.1 (by omega) (by omega) (fun hd => by have hz1 := hd.1; have hz2 := hd.2.1; omega) (by omega)), (by first | omega | (intro q; omega)), (fun hr => by first | exact (hRE (by omega)).1.2 | (exfalso; omega)), hWF, hKP, hFK⟩ dX12_readValley_128
              · skip
                have tc_296 := ti_nlt c_296
                refine lv_aload_n G0.1 G0.2.1 dX12_readValley_106 rfl (lv_at hl 1 rfl) ?_
                refine py_get (C := RX12) (T := TX12) (N := 54) (k := 20) (v := .int v_226) G0 hw in_X12_readValley_X12 rfl hr_272 (by decide) (by decide +kernel) rfl dX12_readValley_107 ?_
                refine lv_if_eq (tgt := 120) G0.1 G0.2.1 dX12_readValley_110 (by decide) (fun c_314 => ?_) (fun c_314 => ?_)
                · skip
                  have tc_314 := ti_eq c_314
                  refine lv_aload_n G0.1 G0.2.1 dX12_readValley_120 rfl (lv_at hl 1 rfl) ?_
                  refine py_callv hw (va_runV (As := []) (rest := []) G0 (c_X12_bad l E G L_260 f_261 H_262.size u hG hWF Tu (show 0 ≤ mi f_261 u 3 by omega)) (cwV 0 G0.2.2.2.2 g_X12_readValley_X12_bad_143 rfl rfl rfl (by decide +kernel) ⟨(Nat.le_of_ble_eq_true rfl), (Nat.le_of_ble_eq_true rfl)⟩) (py_preV hw (C := RX12) (T := TX12) (N := 54) rfl hr_272) rfl rfl hl.1 rfl (lv_room (Nat.le_of_ble_eq_true rfl)) dX12_readValley_121 ⟨(Nat.le_of_ble_eq_true rfl), (Nat.le_of_ble_eq_true rfl)⟩) (fun L_315 f_316 H_317 locs hp_318 hw => ?_)
                  obtain ⟨en_320, en_321, en_322, hWF, kp_323, fk_324⟩ := hp_318
                  have hMB := hMB.kp (kp_f kp_323 (wt12_1 hG Tu) (by decide) (by decide) (fun _ => by decide))
                  have hRF : mi f_316 u 4 = -1 → RFm f_316 G u (mi f_316 u 20) := fun hw => (hRF (by first | (have hz := fk_mi fk_324 4 (by decide) (by decide); omega) | omega)).same (kp_f kp_323 (wt12_18 hG Tu) (by decide) (by decide) (fun _ => by decide)) (fk_mi fk_324 20 (by decide) (by decide))
                  have hRE : mi f_316 u 4 = -1 → RD f_316 G u (rv_go gb nb rv_s0 0).2 := fun hw => (hRE (by first | (have hz := fk_mi fk_324 4 (by decide) (by decide); omega) | omega)).same (fk_mi fk_324 19 (by decide) (by decide)) (fk_mi fk_324 20 (by decide) (by decide)) (kp_f kp_323 (wt12_17 hG Tu) (by decide) (by decide) (fun _ => by decide)) (kp_f kp_323 (wt12_18 hG Tu) (by decide) (by decide) (fun _ => by decide))
                  have hFK := hFK.trans fk_324 (by decide)
                  have hKP := hKP.trans kp_323 (by decide) (by decide)
                  obtain ⟨v_325, hr_326⟩ := fk_4 hWF Tu fk_324 hr_272
                  have tq_327 := mi_row hr_326 2 rfl
                  have tq_328 := mi_row hr_326 3 rfl
                  have bv_271 := wf_free v_271
                  have tq_329 := mi_row hr_326 4 rfl
                  have bv_325 := wf_free v_325
                  have tq_330 := mi_row hr_326 19 rfl
                  have tq_331 := mi_row hr_326 20 rfl
                  refine lv_aload_n G0.1 G0.2.1 dX12_readValley_124 rfl (lv_at hl 1 rfl) ?_
                  refine py_get (C := RX12) (T := TX12) (N := 54) (k := 4) (v := .int v_325) G0 hw in_X12_readValley_X12 rfl hr_326 (by decide) (by decide +kernel) rfl dX12_readValley_125 ?_
                  exact py_iret G0 hr rfl hlk hw ⟨(fun hr => hRF (by omega)), (by first | exact RVF_b hCE.1 (by omega) (by omega) | exact RVF_m hCE.1 (by omega) (by omega) (fun hd => by have hz1 := hd.1; have hz2 := hd.2.1; omega) (by omega)), (by first | omega | (intro q; omega)), (fun hr => by first | exact (hRE (by omega)).1.2 | (exfalso; omega)), hWF, hKP, hFK⟩ dX12_readValley_128
                · skip
                  have tc_314 := ti_ne c_314
                  have hah := ah_hd (hRE (by omega)) (by omega) (by omega) (by omega)
                  refine lv_aload_n G0.1 G0.2.1 dX12_readValley_113 rfl (lv_at hl 1 rfl) ?_
                  refine py_calli hw (va_runV (As := []) (rest := []) G0 (c_X12_areHoused l E G L_260 f_261 H_262.size u (rv_go gb nb rv_s0 0).2 hG hWF Tu (hRE (by omega))) (cwV 0 G0.2.2.2.2 g_X12_readValley_X12_areHoused_277 rfl rfl rfl (by decide +kernel) ⟨(Nat.le_of_ble_eq_true rfl), (Nat.le_of_ble_eq_true rfl)⟩) (py_preV hw (C := RX12) (T := TX12) (N := 54) rfl hr_272) rfl rfl hl.1 rfl (lv_room (Nat.le_of_ble_eq_true rfl)) dX12_readValley_114 ⟨(Nat.le_of_ble_eq_true rfl), (Nat.le_of_ble_eq_true rfl)⟩) (fun r_336 L_332 f_333 H_334 locs hp_335 hw => ?_)
                  obtain ⟨b_339, en_337, en_338, rfl, rfl⟩ := hp_335
                  refine lv_if_ne (tgt := 124) G0.1 G0.2.1 dX12_readValley_117 (by decide) (fun c_340 => ?_) (fun c_340 => ?_)
                  · skip
                    have tc_340 := ti_ne c_340
                    refine lv_aload_n G0.1 G0.2.1 dX12_readValley_124 rfl (lv_at hl 1 rfl) ?_
                    refine py_get (C := RX12) (T := TX12) (N := 54) (k := 4) (v := .int v_221) G0 hw in_X12_readValley_X12 rfl hr_272 (by decide) (by decide +kernel) rfl dX12_readValley_125 ?_
                    exact py_iret G0 hr rfl hlk hw ⟨(fun hr => hRF (by omega)), (by first | exact RVF_h hCE.1 (by omega) (by omega) (hah.mp (en_337 (by omega))) (by omega) | exact RVF_m hCE.1 (by omega) (by omega) (fun hd => en_338 (by omega) (hah.mpr hd)) (by omega)), (by first | omega | (intro q; omega)), (fun hr => by first | exact (hRE (by omega)).1.2 | (exfalso; omega)), hWF, hKP, hFK⟩ dX12_readValley_128
                  · skip
                    have tc_340 := ti_eq c_340
                    refine lv_aload_n G0.1 G0.2.1 dX12_readValley_120 rfl (lv_at hl 1 rfl) ?_
                    refine py_callv hw (va_runV (As := []) (rest := []) G0 (c_X12_bad l E G L_260 f_261 H_334.size u hG hWF Tu (show 0 ≤ mi f_261 u 3 by omega)) (cwV 0 G0.2.2.2.2 g_X12_readValley_X12_bad_143 rfl rfl rfl (by decide +kernel) ⟨(Nat.le_of_ble_eq_true rfl), (Nat.le_of_ble_eq_true rfl)⟩) (py_preV hw (C := RX12) (T := TX12) (N := 54) rfl hr_272) rfl rfl hl.1 rfl (lv_room (Nat.le_of_ble_eq_true rfl)) dX12_readValley_121 ⟨(Nat.le_of_ble_eq_true rfl), (Nat.le_of_ble_eq_true rfl)⟩) (fun L_341 f_342 H_343 locs hp_344 hw => ?_)
                    obtain ⟨en_346, en_347, en_348, hWF, kp_349, fk_350⟩ := hp_344
                    have hMB := hMB.kp (kp_f kp_349 (wt12_1 hG Tu) (by decide) (by decide) (fun _ => by decide))
                    have hRF : mi f_342 u 4 = -1 → RFm f_342 G u (mi f_342 u 20) := fun hw => (hRF (by first | (have hz := fk_mi fk_350 4 (by decide) (by decide); omega) | omega)).same (kp_f kp_349 (wt12_18 hG Tu) (by decide) (by decide) (fun _ => by decide)) (fk_mi fk_350 20 (by decide) (by decide))
                    have hRE : mi f_342 u 4 = -1 → RD f_342 G u (rv_go gb nb rv_s0 0).2 := fun hw => (hRE (by first | (have hz := fk_mi fk_350 4 (by decide) (by decide); omega) | omega)).same (fk_mi fk_350 19 (by decide) (by decide)) (fk_mi fk_350 20 (by decide) (by decide)) (kp_f kp_349 (wt12_17 hG Tu) (by decide) (by decide) (fun _ => by decide)) (kp_f kp_349 (wt12_18 hG Tu) (by decide) (by decide) (fun _ => by decide))
                    have hFK := hFK.trans fk_350 (by decide)
                    have hKP := hKP.trans kp_349 (by decide) (by decide)
                    obtain ⟨v_351, hr_352⟩ := fk_4 hWF Tu fk_350 hr_272
                    have tq_353 := mi_row hr_352 2 rfl
                    have tq_354 := mi_row hr_352 3 rfl
                    have bv_271 := wf_free v_271
                    have tq_355 := mi_row hr_352 4 rfl
                    have bv_351 := wf_free v_351
                    have tq_356 := mi_row hr_352 19 rfl
                    have tq_357 := mi_row hr_352 20 rfl
                    refine lv_aload_n G0.1 G0.2.1 dX12_readValley_124 rfl (lv_at hl 1 rfl) ?_
                    refine py_get (C := RX12) (T := TX12) (N := 54) (k := 4) (v := .int v_351) G0 hw in_X12_readValley_X12 rfl hr_352 (by decide) (by decide +kernel) rfl dX12_readValley_125 ?_
                    exact py_iret G0 hr rfl hlk hw ⟨(fun hr => hRF (by omega)), (by first | exact RVF_h hCE.1 (by omega) (by omega) (hah.mp (en_337 (by omega))) (by omega) | exact RVF_m hCE.1 (by omega) (by omega) (fun hd => en_338 (by omega) (hah.mpr hd)) (by omega)), (by first | omega | (intro q; omega)), (fun hr => by first | exact (hRE (by omega)).1.2 | (exfalso; omega)), hWF, hKP, hFK⟩ dX12_readValley_128
        · skip
          have tc_258 := ti_eq c_258
          obtain ⟨sv, hgo, hRD⟩ := iv1 (by omega) (by omega)
          obtain ⟨pv, hpv⟩ : ∃ z : Int, z = mi f_j22 u 3 := ⟨_, rfl⟩
          rw [← hpv] at hgo
          clear iv1 iv2 iv3
          refine lv_aload_n G0.1 G0.2.1 dX12_readValley_34 rfl (lv_at hl 1 rfl) ?_
          refine py_callv hw (va_runV (As := []) (rest := []) G0 (c_X12_clauseText l E G L_j22 f_j22 H_j22.size u gb nb pv sv hG hWF Tu (show 0 ≤ mi f_j22 u 3 ∧ mi f_j22 u 3 ≤ mi f_j22 u 2 ∧ mi f_j22 u 4 = -1 by omega) (show mi f_j22 u 3 = pv by omega) (show mi f_j22 u 2 = nb ∧ 0 ≤ pv by omega) hRD hMB) (cwV 0 G0.2.2.2.2 g_X12_readValley_X12_clauseText_274 rfl rfl rfl (by decide +kernel) ⟨(Nat.le_of_ble_eq_true rfl), (Nat.le_of_ble_eq_true rfl)⟩) (py_preV hw (C := RX12) (T := TX12) (N := 54) rfl hr_252) rfl rfl hl.1 rfl (lv_room (Nat.le_of_ble_eq_true rfl)) dX12_readValley_35 ⟨(Nat.le_of_ble_eq_true rfl), (Nat.le_of_ble_eq_true rfl)⟩) (fun L_358 f_359 H_360 locs hp_361 hw => ?_)
          obtain ⟨en_363, en_364, en_365, en_366, en_367, hWF, kp_368, fk_369⟩ := hp_361
          have hMB := hMB.kp (kp_f kp_368 (wt12_1 hG Tu) (by decide) (by decide) (fun _ => by decide))
          have hFK := hFK.trans fk_369 (by decide)
          have hKP := hKP.trans kp_368 (by decide) (by decide)
          obtain ⟨v_370, v_371, v_372, v_373, hr_374, b_375, b_376⟩ := fk_3_4_19_20 hWF Tu fk_369 hr_252
          have tq_377 := mi_row hr_374 2 rfl
          have tq_378 := mi_row hr_374 3 rfl
          have bv_370 := wf_free v_370
          have tq_379 := mi_row hr_374 4 rfl
          have bv_371 := wf_free v_371
          have tq_380 := mi_row hr_374 19 rfl
          have tq_381 := mi_row hr_374 20 rfl
          have hRF : mi f_359 u 4 = -1 → RFm f_359 G u (mi f_359 u 20) := fun hw => en_364 (hRF (by omega)) hw
          have hRC : mi f_359 u 4 = -1 → RD f_359 G u (rv_cl gb nb sv pv).2 := en_367
          refine lv_aload_n G0.1 G0.2.1 dX12_readValley_38 rfl (lv_at hl 1 rfl) ?_
          refine py_get (C := RX12) (T := TX12) (N := 54) (k := 4) (v := .int v_371) G0 hw in_X12_readValley_X12 rfl hr_374 (by decide) (by decide +kernel) rfl dX12_readValley_39 ?_
          refine lv_iconst (v := (-1)) G0.1 G0.2.1 dX12_readValley_42 (by decide) ?_
          refine lv_icmp_ne (tgt := 59) G0.1 G0.2.1 dX12_readValley_43 (by decide) (fun c_382 => ?_) (fun c_382 => ?_)
          · skip
            have tc_382 := ti_ne c_382
            refine lv_iconst (v := 0) G0.1 G0.2.1 dX12_readValley_59 (by decide) ?_
            refine lv_istore_n (lv' := [(1, .int 0), (0, .ref u)]) G0.1 G0.2.1 dX12_readValley_60 rfl hl (by decide) rfl (fun ls hl => ?_)
            refine lv_aload_n G0.1 G0.2.1 dX12_readValley_61 rfl (lv_at hl 1 rfl) ?_
            refine lv_dup G0.1 G0.2.1 dX12_readValley_62 rfl ?_
            refine py_get (C := RX12) (T := TX12) (N := 54) (k := 3) (v := .int v_370) G0 hw in_X12_readValley_X12 rfl hr_374 (by decide) (by decide +kernel) rfl dX12_readValley_63 ?_
            refine lv_iload_n G0.1 G0.2.1 dX12_readValley_66 rfl (lv_at hl 0 rfl) ?_
            refine lv_if_eq (tgt := 74) G0.1 G0.2.1 dX12_readValley_67 (by decide) (fun c_383 => ?_) (fun c_383 => ?_)
            · skip
              have tc_383 := ti_eq c_383
              refine lv_iconst (v := 0) G0.1 G0.2.1 dX12_readValley_74 (by decide) ?_
              refine lv_iadd G0.1 G0.2.1 dX12_readValley_75 ?_
              refine lv_topi (fun x_384 ex_384 => ?_)
              first | have tx_384 := ti_add ex_384 (by omega -splitDisjunctions) (by omega -splitDisjunctions) | skip
              refine py_put (C := RX12) (T := TX12) (N := 54) (k := 3) (v := .int x_384) (fs' := [.int v_218, .ref (G.2 u 1), .int v_219, .int x_384, .int v_371, .int v_222, .ref (G.2 u 6), .ref (G.2 u 7), .ref (G.2 u 8), .ref (G.2 u 9), .ref (G.2 u 10), .ref (G.2 u 11), .ref (G.2 u 12), .int v_223, .int v_224, .ref (G.2 u 15), .ref (G.2 u 16), .ref (G.2 u 17), .ref (G.2 u 18), .int v_372, .int v_373, .ref (G.2 u 21), .ref (G.2 u 22), .ref (G.2 u 23), .int v_227, .int v_228, .ref (G.2 u 26), .ref (G.2 u 27), .ref (G.2 u 28), .int v_229, .long y_230, .int v_231, .int v_232, .int v_233, .int v_234, .ref (G.2 u 35), .ref (G.2 u 36), .ref (G.2 u 37), .ref (G.2 u 38), .ref (G.2 u 39), .ref (G.2 u 40), .ref (G.2 u 41), .ref (G.2 u 42), .int v_235, .ref (G.2 u 44), .ref (G.2 u 45), .ref (G.2 u 46), .ref (G.2 u 47), .long y_236, .ref (G.2 u 49), .ref (G.2 u 50), .int v_237, .long y_238, .int v_239]) (ty0 := tyX12) G0 hw tyX12_ok nmX12 in_X12_readValley_X12 rfl hr_374 (by decide) (by decide +kernel) rfl rfl rfl rfl (Nat.le_of_ble_eq_true rfl) rfl dX12_readValley_76 (fun f_385 H_386 locs h_387 x_388 hw => ?_)
              have hMB := hMB.kp (kp_f (KP.refl.upd hWF x_388 Tu (Or.inl (by decide)) : KP G [13] false f_359 f_385) (wt12_1 hG Tu) (by decide) (by decide) (fun _ => by decide))
              have hRF : mi f_385 u 4 = -1 → RFm f_385 G u (mi f_385 u 20) := fun hw => (hRF (by have z1 := mi_row hr_374 4 rfl; have z2 := mi_row h_387 4 rfl; omega)).same (x_388 _ (hWF _ (by rw [(wt12_18 hG Tu)]; decide)).1 (wf_ne (wt12_18 hG Tu) Tu (by decide))).2 (by have z1 := mi_row hr_374 20 rfl; have z2 := mi_row h_387 20 rfl; omega)
              have hRC : mi f_385 u 4 = -1 → RD f_385 G u (rv_cl gb nb sv pv).2 := fun hw => (hRC (by have z1 := mi_row hr_374 4 rfl; have z2 := mi_row h_387 4 rfl; omega)).same (by have z1 := mi_row hr_374 19 rfl; have z2 := mi_row h_387 19 rfl; omega) (by have z1 := mi_row hr_374 20 rfl; have z2 := mi_row h_387 20 rfl; omega) (x_388 _ (hWF _ (by rw [wt12_17 hG Tu]; decide)).1 (wf_ne (wt12_17 hG Tu) Tu (by decide))).2 (x_388 _ (hWF _ (by rw [wt12_18 hG Tu]; decide)).1 (wf_ne (wt12_18 hG Tu) Tu (by decide))).2
              have hFK := hFK.put hr_374 h_387 3 (by decide) rfl
              have hKP := hKP.upd hWF x_388 Tu (Or.inl (by decide))
              have hWF := wf_upd hWF h_387 x_388 (by rw [Tu]; exact ⟨v_218, v_219, x_384, v_371, v_222, v_223, v_224, v_372, v_373, v_227, v_228, v_229, y_230, v_231, v_232, v_233, v_234, v_235, y_236, v_237, y_238, v_239, rfl, ⟨by omega, by omega⟩, ⟨by omega, by omega⟩, ⟨by omega, by omega⟩, ⟨by omega, by omega⟩, ⟨by omega, by omega⟩, ⟨by omega, by omega⟩, ⟨by omega, by omega⟩, ⟨by omega, by omega⟩, ⟨by omega, by omega⟩, ⟨by omega, by omega⟩, ⟨by omega, by omega⟩, ⟨by omega, by omega⟩⟩)
              have tq_389 := mi_row h_387 2 rfl
              have tq_390 := mi_row h_387 3 rfl
              have bx_384 := wf_free x_384
              have tq_391 := mi_row h_387 4 rfl
              have bv_371 := wf_free v_371
              have tq_392 := mi_row h_387 19 rfl
              have tq_393 := mi_row h_387 20 rfl
              refine lv_goto (tgt := 22) G0.1 G0.2.1 dX12_readValley_79 (by decide) ?_
              exact ih_22 ((mi f u 2 - mi f_385 u 3).toNat + (0 : Int32).toInt.toNat) (by omega) 0 L_358 f_385 _ _ ls rfl ⟨by omega, by omega⟩ hWF hKP hMB hFK hRF (by first | omega | (intros; omega)) (fun hw hm => by first | (exfalso; omega) | exact ⟨_, go_1 hgo (en_365 (by omega)) (by omega) (by omega) (by omega), hRC hw⟩) (fun hw hm => by first | (exfalso; omega) | (have hz := go_0 (b := mi f_385 u 3) hgo (en_365 (by omega)) (by omega) (by omega) (by omega); exact ⟨hz.1, by rw [hz.2]; exact hRC hw⟩)) (fun hw => by first | (exfalso; omega) | exact go_w hgo (by have hz := en_366 (by omega); exact ⟨hz.1, by omega⟩)) hw (lv_sub hl [0, 1] rfl)
            · skip
              exact absurd c_383 (by decide)
          · skip
            have tc_382 := ti_eq c_382
            refine lv_aload_n G0.1 G0.2.1 dX12_readValley_46 rfl (lv_at hl 1 rfl) ?_
            refine py_calli hw (va_runV (As := []) (rest := []) G0 (c_X12_look l E G L_358 f_359 H_360.size u gb nb (mi f_359 u 3) hG hWF Tu (show 0 ≤ mi f_359 u 3 ∧ mi f_359 u 3 ≤ mi f_359 u 2 by omega) (show mi f_359 u 3 = (mi f_359 u 3) by omega) (show mi f_359 u 2 = nb ∧ 0 ≤ (mi f_359 u 3) by omega) hMB) (cwV 0 G0.2.2.2.2 g_X12_readValley_X12_look_146 rfl rfl rfl (by decide +kernel) ⟨(Nat.le_of_ble_eq_true rfl), (Nat.le_of_ble_eq_true rfl)⟩) (py_preV hw (C := RX12) (T := TX12) (N := 54) rfl hr_374) rfl rfl hl.1 rfl (lv_room (Nat.le_of_ble_eq_true rfl)) dX12_readValley_47 ⟨(Nat.le_of_ble_eq_true rfl), (Nat.le_of_ble_eq_true rfl)⟩) (fun r_398 L_394 f_395 H_396 locs hp_397 hw => ?_)
            obtain ⟨en_399, en_400, en_401, en_402, hWF, kp_403, fk_404⟩ := hp_397
            have hMB := hMB.kp (kp_f kp_403 (wt12_1 hG Tu) (by decide) (by decide) (fun _ => by decide))
            have hRF : mi f_395 u 4 = -1 → RFm f_395 G u (mi f_395 u 20) := fun hw => (hRF (by first | (have hz := fk_mi fk_404 4 (by decide) (by decide); omega) | omega)).same (kp_f kp_403 (wt12_18 hG Tu) (by decide) (by decide) (fun _ => by decide)) (fk_mi fk_404 20 (by decide) (by decide))
            have hRC : mi f_395 u 4 = -1 → RD f_395 G u (rv_cl gb nb sv pv).2 := fun hw => (hRC (by first | (have hz := fk_mi fk_404 4 (by decide) (by decide); omega) | omega)).same (fk_mi fk_404 19 (by decide) (by decide)) (fk_mi fk_404 20 (by decide) (by decide)) (kp_f kp_403 (wt12_17 hG Tu) (by decide) (by decide) (fun _ => by decide)) (kp_f kp_403 (wt12_18 hG Tu) (by decide) (by decide) (fun _ => by decide))
            have hFK := hFK.trans fk_404 (by decide)
            have hKP := hKP.trans kp_403 (by decide) (by decide)
            obtain ⟨v_405, hr_406⟩ := fk_3 hWF Tu fk_404 hr_374
            have tq_407 := mi_row hr_406 2 rfl
            have tq_408 := mi_row hr_406 3 rfl
            have bv_405 := wf_free v_405
            have tq_409 := mi_row hr_406 4 rfl
            have bv_371 := wf_free v_371
            have tq_410 := mi_row hr_406 19 rfl
            have tq_411 := mi_row hr_406 20 rfl
            have br_398 := wf_free r_398
            refine lv_bipush (v := 59) G0.1 G0.2.1 dX12_readValley_50 (by decide) ?_
            refine lv_icmp_ne (tgt := 59) G0.1 G0.2.1 dX12_readValley_52 (by decide) (fun c_412 => ?_) (fun c_412 => ?_)
            · skip
              have tc_412 := ti_ne c_412
              refine lv_iconst (v := 0) G0.1 G0.2.1 dX12_readValley_59 (by decide) ?_
              refine lv_istore_n (lv' := [(1, .int 0), (0, .ref u)]) G0.1 G0.2.1 dX12_readValley_60 rfl hl (by decide) rfl (fun ls hl => ?_)
              refine lv_aload_n G0.1 G0.2.1 dX12_readValley_61 rfl (lv_at hl 1 rfl) ?_
              refine lv_dup G0.1 G0.2.1 dX12_readValley_62 rfl ?_
              refine py_get (C := RX12) (T := TX12) (N := 54) (k := 3) (v := .int v_405) G0 hw in_X12_readValley_X12 rfl hr_406 (by decide) (by decide +kernel) rfl dX12_readValley_63 ?_
              refine lv_iload_n G0.1 G0.2.1 dX12_readValley_66 rfl (lv_at hl 0 rfl) ?_
              refine lv_if_eq (tgt := 74) G0.1 G0.2.1 dX12_readValley_67 (by decide) (fun c_413 => ?_) (fun c_413 => ?_)
              · skip
                have tc_413 := ti_eq c_413
                refine lv_iconst (v := 0) G0.1 G0.2.1 dX12_readValley_74 (by decide) ?_
                refine lv_iadd G0.1 G0.2.1 dX12_readValley_75 ?_
                refine lv_topi (fun x_414 ex_414 => ?_)
                first | have tx_414 := ti_add ex_414 (by omega -splitDisjunctions) (by omega -splitDisjunctions) | skip
                refine py_put (C := RX12) (T := TX12) (N := 54) (k := 3) (v := .int x_414) (fs' := [.int v_218, .ref (G.2 u 1), .int v_219, .int x_414, .int v_371, .int v_222, .ref (G.2 u 6), .ref (G.2 u 7), .ref (G.2 u 8), .ref (G.2 u 9), .ref (G.2 u 10), .ref (G.2 u 11), .ref (G.2 u 12), .int v_223, .int v_224, .ref (G.2 u 15), .ref (G.2 u 16), .ref (G.2 u 17), .ref (G.2 u 18), .int v_372, .int v_373, .ref (G.2 u 21), .ref (G.2 u 22), .ref (G.2 u 23), .int v_227, .int v_228, .ref (G.2 u 26), .ref (G.2 u 27), .ref (G.2 u 28), .int v_229, .long y_230, .int v_231, .int v_232, .int v_233, .int v_234, .ref (G.2 u 35), .ref (G.2 u 36), .ref (G.2 u 37), .ref (G.2 u 38), .ref (G.2 u 39), .ref (G.2 u 40), .ref (G.2 u 41), .ref (G.2 u 42), .int v_235, .ref (G.2 u 44), .ref (G.2 u 45), .ref (G.2 u 46), .ref (G.2 u 47), .long y_236, .ref (G.2 u 49), .ref (G.2 u 50), .int v_237, .long y_238, .int v_239]) (ty0 := tyX12) G0 hw tyX12_ok nmX12 in_X12_readValley_X12 rfl hr_406 (by decide) (by decide +kernel) rfl rfl rfl rfl (Nat.le_of_ble_eq_true rfl) rfl dX12_readValley_76 (fun f_415 H_416 locs h_417 x_418 hw => ?_)
                have hMB := hMB.kp (kp_f (KP.refl.upd hWF x_418 Tu (Or.inl (by decide)) : KP G [13] false f_395 f_415) (wt12_1 hG Tu) (by decide) (by decide) (fun _ => by decide))
                have hRF : mi f_415 u 4 = -1 → RFm f_415 G u (mi f_415 u 20) := fun hw => (hRF (by have z1 := mi_row hr_406 4 rfl; have z2 := mi_row h_417 4 rfl; omega)).same (x_418 _ (hWF _ (by rw [(wt12_18 hG Tu)]; decide)).1 (wf_ne (wt12_18 hG Tu) Tu (by decide))).2 (by have z1 := mi_row hr_406 20 rfl; have z2 := mi_row h_417 20 rfl; omega)
                have hRC : mi f_415 u 4 = -1 → RD f_415 G u (rv_cl gb nb sv pv).2 := fun hw => (hRC (by have z1 := mi_row hr_406 4 rfl; have z2 := mi_row h_417 4 rfl; omega)).same (by have z1 := mi_row hr_406 19 rfl; have z2 := mi_row h_417 19 rfl; omega) (by have z1 := mi_row hr_406 20 rfl; have z2 := mi_row h_417 20 rfl; omega) (x_418 _ (hWF _ (by rw [wt12_17 hG Tu]; decide)).1 (wf_ne (wt12_17 hG Tu) Tu (by decide))).2 (x_418 _ (hWF _ (by rw [wt12_18 hG Tu]; decide)).1 (wf_ne (wt12_18 hG Tu) Tu (by decide))).2
                have hFK := hFK.put hr_406 h_417 3 (by decide) rfl
                have hKP := hKP.upd hWF x_418 Tu (Or.inl (by decide))
                have hWF := wf_upd hWF h_417 x_418 (by rw [Tu]; exact ⟨v_218, v_219, x_414, v_371, v_222, v_223, v_224, v_372, v_373, v_227, v_228, v_229, y_230, v_231, v_232, v_233, v_234, v_235, y_236, v_237, y_238, v_239, rfl, ⟨by omega, by omega⟩, ⟨by omega, by omega⟩, ⟨by omega, by omega⟩, ⟨by omega, by omega⟩, ⟨by omega, by omega⟩, ⟨by omega, by omega⟩, ⟨by omega, by omega⟩, ⟨by omega, by omega⟩, ⟨by omega, by omega⟩, ⟨by omega, by omega⟩, ⟨by omega, by omega⟩, ⟨by omega, by omega⟩⟩)
                have tq_419 := mi_row h_417 2 rfl
                have tq_420 := mi_row h_417 3 rfl
                have bx_414 := wf_free x_414
                have tq_421 := mi_row h_417 4 rfl
                have bv_371 := wf_free v_371
                have tq_422 := mi_row h_417 19 rfl
                have tq_423 := mi_row h_417 20 rfl
                refine lv_goto (tgt := 22) G0.1 G0.2.1 dX12_readValley_79 (by decide) ?_
                exact ih_22 ((mi f u 2 - mi f_415 u 3).toNat + (0 : Int32).toInt.toNat) (by omega) 0 L_394 f_415 _ _ ls rfl ⟨by omega, by omega⟩ hWF hKP hMB hFK hRF (by first | omega | (intros; omega)) (fun hw hm => by first | (exfalso; omega) | exact ⟨_, go_1 hgo (en_365 (by omega)) (by omega) (by omega) (by omega), hRC hw⟩) (fun hw hm => by first | (exfalso; omega) | (have hz := go_0 (b := mi f_415 u 3) hgo (en_365 (by omega)) (by omega) (by omega) (by omega); exact ⟨hz.1, by rw [hz.2]; exact hRC hw⟩)) (fun hw => by first | (exfalso; omega) | exact go_w hgo (by have hz := en_366 (by omega); exact ⟨hz.1, by omega⟩)) hw (lv_sub hl [0, 1] rfl)
              · skip
                exact absurd c_413 (by decide)
            · skip
              have tc_412 := ti_eq c_412
              replace en_400 := en_400 (by omega)
              refine lv_iconst (v := 1) G0.1 G0.2.1 dX12_readValley_55 (by decide) ?_
              refine lv_goto (tgt := 60) G0.1 G0.2.1 dX12_readValley_56 (by decide) ?_
              refine lv_istore_n (lv' := [(1, .int 1), (0, .ref u)]) G0.1 G0.2.1 dX12_readValley_60 rfl hl (by decide) rfl (fun ls hl => ?_)
              refine lv_aload_n G0.1 G0.2.1 dX12_readValley_61 rfl (lv_at hl 1 rfl) ?_
              refine lv_dup G0.1 G0.2.1 dX12_readValley_62 rfl ?_
              refine py_get (C := RX12) (T := TX12) (N := 54) (k := 3) (v := .int v_405) G0 hw in_X12_readValley_X12 rfl hr_406 (by decide) (by decide +kernel) rfl dX12_readValley_63 ?_
              refine lv_iload_n G0.1 G0.2.1 dX12_readValley_66 rfl (lv_at hl 0 rfl) ?_
              refine lv_if_eq (tgt := 74) G0.1 G0.2.1 dX12_readValley_67 (by decide) (fun c_424 => ?_) (fun c_424 => ?_)
              · skip
                exact absurd c_424 (by decide)
              · skip
                have tc_424 := ti_ne c_424
                refine lv_iconst (v := 1) G0.1 G0.2.1 dX12_readValley_70 (by decide) ?_
                refine lv_goto (tgt := 75) G0.1 G0.2.1 dX12_readValley_71 (by decide) ?_
                refine lv_iadd G0.1 G0.2.1 dX12_readValley_75 ?_
                refine lv_topi (fun x_425 ex_425 => ?_)
                first | have tx_425 := ti_add ex_425 (by omega -splitDisjunctions) (by omega -splitDisjunctions) | skip
                refine py_put (C := RX12) (T := TX12) (N := 54) (k := 3) (v := .int x_425) (fs' := [.int v_218, .ref (G.2 u 1), .int v_219, .int x_425, .int v_371, .int v_222, .ref (G.2 u 6), .ref (G.2 u 7), .ref (G.2 u 8), .ref (G.2 u 9), .ref (G.2 u 10), .ref (G.2 u 11), .ref (G.2 u 12), .int v_223, .int v_224, .ref (G.2 u 15), .ref (G.2 u 16), .ref (G.2 u 17), .ref (G.2 u 18), .int v_372, .int v_373, .ref (G.2 u 21), .ref (G.2 u 22), .ref (G.2 u 23), .int v_227, .int v_228, .ref (G.2 u 26), .ref (G.2 u 27), .ref (G.2 u 28), .int v_229, .long y_230, .int v_231, .int v_232, .int v_233, .int v_234, .ref (G.2 u 35), .ref (G.2 u 36), .ref (G.2 u 37), .ref (G.2 u 38), .ref (G.2 u 39), .ref (G.2 u 40), .ref (G.2 u 41), .ref (G.2 u 42), .int v_235, .ref (G.2 u 44), .ref (G.2 u 45), .ref (G.2 u 46), .ref (G.2 u 47), .long y_236, .ref (G.2 u 49), .ref (G.2 u 50), .int v_237, .long y_238, .int v_239]) (ty0 := tyX12) G0 hw tyX12_ok nmX12 in_X12_readValley_X12 rfl hr_406 (by decide) (by decide +kernel) rfl rfl rfl rfl (Nat.le_of_ble_eq_true rfl) rfl dX12_readValley_76 (fun f_426 H_427 locs h_428 x_429 hw => ?_)
                have hMB := hMB.kp (kp_f (KP.refl.upd hWF x_429 Tu (Or.inl (by decide)) : KP G [13] false f_395 f_426) (wt12_1 hG Tu) (by decide) (by decide) (fun _ => by decide))
                have hRF : mi f_426 u 4 = -1 → RFm f_426 G u (mi f_426 u 20) := fun hw => (hRF (by have z1 := mi_row hr_406 4 rfl; have z2 := mi_row h_428 4 rfl; omega)).same (x_429 _ (hWF _ (by rw [(wt12_18 hG Tu)]; decide)).1 (wf_ne (wt12_18 hG Tu) Tu (by decide))).2 (by have z1 := mi_row hr_406 20 rfl; have z2 := mi_row h_428 20 rfl; omega)
                have hRC : mi f_426 u 4 = -1 → RD f_426 G u (rv_cl gb nb sv pv).2 := fun hw => (hRC (by have z1 := mi_row hr_406 4 rfl; have z2 := mi_row h_428 4 rfl; omega)).same (by have z1 := mi_row hr_406 19 rfl; have z2 := mi_row h_428 19 rfl; omega) (by have z1 := mi_row hr_406 20 rfl; have z2 := mi_row h_428 20 rfl; omega) (x_429 _ (hWF _ (by rw [wt12_17 hG Tu]; decide)).1 (wf_ne (wt12_17 hG Tu) Tu (by decide))).2 (x_429 _ (hWF _ (by rw [wt12_18 hG Tu]; decide)).1 (wf_ne (wt12_18 hG Tu) Tu (by decide))).2
                have hFK := hFK.put hr_406 h_428 3 (by decide) rfl
                have hKP := hKP.upd hWF x_429 Tu (Or.inl (by decide))
                have hWF := wf_upd hWF h_428 x_429 (by rw [Tu]; exact ⟨v_218, v_219, x_425, v_371, v_222, v_223, v_224, v_372, v_373, v_227, v_228, v_229, y_230, v_231, v_232, v_233, v_234, v_235, y_236, v_237, y_238, v_239, rfl, ⟨by omega, by omega⟩, ⟨by omega, by omega⟩, ⟨by omega, by omega⟩, ⟨by omega, by omega⟩, ⟨by omega, by omega⟩, ⟨by omega, by omega⟩, ⟨by omega, by omega⟩, ⟨by omega, by omega⟩, ⟨by omega, by omega⟩, ⟨by omega, by omega⟩, ⟨by omega, by omega⟩, ⟨by omega, by omega⟩⟩)
                have tq_430 := mi_row h_428 2 rfl
                have tq_431 := mi_row h_428 3 rfl
                have bx_425 := wf_free x_425
                have tq_432 := mi_row h_428 4 rfl
                have bv_371 := wf_free v_371
                have tq_433 := mi_row h_428 19 rfl
                have tq_434 := mi_row h_428 20 rfl
                refine lv_goto (tgt := 22) G0.1 G0.2.1 dX12_readValley_79 (by decide) ?_
                exact ih_22 ((mi f u 2 - mi f_426 u 3).toNat + (1 : Int32).toInt.toNat) (by omega) 1 L_394 f_426 _ _ ls rfl ⟨by omega, by omega⟩ hWF hKP hMB hFK hRF (by first | omega | (intros; omega)) (fun hw hm => by first | (exfalso; omega) | exact ⟨_, go_1 hgo (en_365 (by omega)) (by omega) (by omega) (by omega), hRC hw⟩) (fun hw hm => by first | (exfalso; omega) | (have hz := go_0 (b := mi f_426 u 3) hgo (en_365 (by omega)) (by omega) (by omega) (by omega); exact ⟨hz.1, by rw [hz.2]; exact hRC hw⟩)) (fun hw => by first | (exfalso; omega) | exact go_w hgo (by have hz := en_366 (by omega); exact ⟨hz.1, by omega⟩)) hw (lv_sub hl [0, 1] rfl)
  exact lo_22 _ 1 L f_68 _ _ ls rfl ⟨by omega, by omega⟩ hWF hKP hMB hFK hRF (by first | omega | (intros; omega)) (fun hw hm => ⟨rv_s0, by rw [show mi f_68 u 3 = 0 by omega], RD.zero (by omega) (by omega)⟩) (fun hw hm => absurd hm (by omega)) (fun hw => absurd (show mi f_68 u 4 = -1 by omega) hw) hw (lv_sub hl [0, 1] rfl)
