theorem dX12_fault_0 : decode cX12_fault 0 = .ok (.iload_n 1, 1) := by decide +kernel
theorem dX12_fault_1 : decode cX12_fault 1 = .ok (.ifCond .ne 10, 3) := by decide +kernel
theorem dX12_fault_4 : decode cX12_fault 4 = .ok (.aload_n 0, 1) := by decide +kernel
theorem dX12_fault_5 : decode cX12_fault 5 = .ok (.invokevirtual 281, 3) := by decide +kernel
theorem dX12_fault_8 : decode cX12_fault 8 = .ok (.goto 18, 3) := by decide +kernel
theorem dX12_fault_11 : decode cX12_fault 11 = .ok (.iload_n 1, 1) := by decide +kernel
theorem dX12_fault_12 : decode cX12_fault 12 = .ok (.iconst 1, 1) := by decide +kernel
theorem dX12_fault_13 : decode cX12_fault 13 = .ok (.if_icmp .ne 11, 3) := by decide +kernel
theorem dX12_fault_16 : decode cX12_fault 16 = .ok (.aload_n 0, 1) := by decide +kernel
theorem dX12_fault_17 : decode cX12_fault 17 = .ok (.iconst 4, 1) := by decide +kernel
theorem dX12_fault_18 : decode cX12_fault 18 = .ok (.invokevirtual 284, 3) := by decide +kernel
theorem dX12_fault_21 : decode cX12_fault 21 = .ok (.goto 5, 3) := by decide +kernel
theorem dX12_fault_24 : decode cX12_fault 24 = .ok (.bipush (-2), 2) := by decide +kernel
theorem dX12_fault_26 : decode cX12_fault 26 = .ok (.ireturn, 1) := by decide +kernel
theorem dX12_text_0 : decode cX12_text 0 = .ok (.iload_n 1, 1) := by decide +kernel
theorem dX12_text_1 : decode cX12_text 1 = .ok (.ifCond .ne 21, 3) := by decide +kernel
theorem dX12_text_4 : decode cX12_text 4 = .ok (.aload_n 0, 1) := by decide +kernel
theorem dX12_text_5 : decode cX12_text 5 = .ok (.invokevirtual 281, 3) := by decide +kernel
theorem dX12_text_8 : decode cX12_text 8 = .ok (.iconst (-1), 1) := by decide +kernel
theorem dX12_text_9 : decode cX12_text 9 = .ok (.if_icmp .ne 13, 3) := by decide +kernel
theorem dX12_text_12 : decode cX12_text 12 = .ok (.aload_n 0, 1) := by decide +kernel
theorem dX12_text_13 : decode cX12_text 13 = .ok (.iconst 0, 1) := by decide +kernel
theorem dX12_text_14 : decode cX12_text 14 = .ok (.putfield 124, 3) := by decide +kernel
theorem dX12_text_17 : decode cX12_text 17 = .ok (.aload_n 0, 1) := by decide +kernel
theorem dX12_text_18 : decode cX12_text 18 = .ok (.invokevirtual 319, 3) := by decide +kernel
theorem dX12_text_21 : decode cX12_text 21 = .ok (.ireturn, 1) := by decide +kernel
theorem dX12_text_22 : decode cX12_text 22 = .ok (.iload_n 1, 1) := by decide +kernel
theorem dX12_text_23 : decode cX12_text 23 = .ok (.iconst 1, 1) := by decide +kernel
theorem dX12_text_24 : decode cX12_text 24 = .ok (.if_icmp .ne 45, 3) := by decide +kernel
theorem dX12_text_27 : decode cX12_text 27 = .ok (.aload_n 0, 1) := by decide +kernel
theorem dX12_text_28 : decode cX12_text 28 = .ok (.getfield 322, 3) := by decide +kernel
theorem dX12_text_31 : decode cX12_text 31 = .ok (.iconst 4, 1) := by decide +kernel
theorem dX12_text_32 : decode cX12_text 32 = .ok (.if_icmp .ge 37, 3) := by decide +kernel
theorem dX12_text_35 : decode cX12_text 35 = .ok (.aload_n 0, 1) := by decide +kernel
theorem dX12_text_36 : decode cX12_text 36 = .ok (.aload_n 0, 1) := by decide +kernel
theorem dX12_text_37 : decode cX12_text 37 = .ok (.getfield 322, 3) := by decide +kernel
theorem dX12_text_40 : decode cX12_text 40 = .ok (.invokevirtual 284, 3) := by decide +kernel
theorem dX12_text_43 : decode cX12_text 43 = .ok (.iconst (-1), 1) := by decide +kernel
theorem dX12_text_44 : decode cX12_text 44 = .ok (.if_icmp .ne 25, 3) := by decide +kernel
theorem dX12_text_47 : decode cX12_text 47 = .ok (.aload_n 0, 1) := by decide +kernel
theorem dX12_text_48 : decode cX12_text 48 = .ok (.iconst 0, 1) := by decide +kernel
theorem dX12_text_49 : decode cX12_text 49 = .ok (.putfield 124, 3) := by decide +kernel
theorem dX12_text_52 : decode cX12_text 52 = .ok (.aload_n 0, 1) := by decide +kernel
theorem dX12_text_53 : decode cX12_text 53 = .ok (.dup, 1) := by decide +kernel
theorem dX12_text_54 : decode cX12_text 54 = .ok (.getfield 322, 3) := by decide +kernel
theorem dX12_text_57 : decode cX12_text 57 = .ok (.iconst 1, 1) := by decide +kernel
theorem dX12_text_58 : decode cX12_text 58 = .ok (.iadd, 1) := by decide +kernel
theorem dX12_text_59 : decode cX12_text 59 = .ok (.putfield 322, 3) := by decide +kernel
theorem dX12_text_62 : decode cX12_text 62 = .ok (.aload_n 0, 1) := by decide +kernel
theorem dX12_text_63 : decode cX12_text 63 = .ok (.getfield 322, 3) := by decide +kernel
theorem dX12_text_66 : decode cX12_text 66 = .ok (.iconst 1, 1) := by decide +kernel
theorem dX12_text_67 : decode cX12_text 67 = .ok (.isub, 1) := by decide +kernel
theorem dX12_text_68 : decode cX12_text 68 = .ok (.ireturn, 1) := by decide +kernel
theorem dX12_text_69 : decode cX12_text 69 = .ok (.iconst (-1), 1) := by decide +kernel
theorem dX12_text_70 : decode cX12_text 70 = .ok (.ireturn, 1) := by decide +kernel
def w_X12_text : List Cond := .code yX12_text cX12_text 2 (some .int) :: ([Cond.fieldLink RX12 322 "HeadYearModel" "laws" "I", Cond.methodLink RX12 284 yX12_readLaw, Cond.instanceMethod yX12_readLaw, Cond.selects RX12 yX12_readLaw yX12_readLaw, Cond.initialized RX12, Cond.fieldLink RX12 124 "HeadYearModel" "size" "I", Cond.methodLink RX12 281 yX12_readValley, Cond.instanceMethod yX12_readValley, Cond.selects RX12 yX12_readValley yX12_readValley, Cond.methodLink RX12 319 yX12_takeValley, Cond.instanceMethod yX12_takeValley, Cond.selects RX12 yX12_takeValley yX12_takeValley] ++ (u_ws RX12 TX12 54 ++ (w_X12_readLaw ++ (w_X12_readValley ++ (w_X12_takeValley ++ ([]))))))
theorem in_X12_text_X12 : ∀ w ∈ u_ws RX12 TX12 54, w ∈ w_X12_text := fun _ h => List.mem_cons_of_mem _ (List.mem_append_right _ (List.mem_append_left _ h))
theorem gg_X12_text_X12_readLaw : GoodIn w_X12_text w_X12_readLaw := goodIn_sub (fun _ h => List.mem_cons_of_mem _ (List.mem_append_right _ (List.mem_append_right _ (List.mem_append_left _ h)))) (by decide +kernel)
theorem gg_X12_text_X12_readValley : GoodIn w_X12_text w_X12_readValley := goodIn_sub (fun _ h => List.mem_cons_of_mem _ (List.mem_append_right _ (List.mem_append_right _ (List.mem_append_right _ (List.mem_append_left _ h))))) (by decide +kernel)
theorem gg_X12_text_X12_takeValley : GoodIn w_X12_text w_X12_takeValley := goodIn_sub (fun _ h => List.mem_cons_of_mem _ (List.mem_append_right _ (List.mem_append_right _ (List.mem_append_right _ (List.mem_append_right _ (List.mem_append_left _ h)))))) (by decide +kernel)
theorem g_X12_text_X12_readLaw_284 : GoodIn w_X12_text (wsV RX12 284 RX12 yX12_readLaw w_X12_readLaw) := goodIn_app (goodIn_of _ (by decide +kernel)) gg_X12_text_X12_readLaw
theorem g_X12_text_X12_readValley_281 : GoodIn w_X12_text (wsV RX12 281 RX12 yX12_readValley w_X12_readValley) := goodIn_app (goodIn_of _ (by decide +kernel)) gg_X12_text_X12_readValley
theorem g_X12_text_X12_takeValley_319 : GoodIn w_X12_text (wsV RX12 319 RX12 yX12_takeValley w_X12_takeValley) := goodIn_app (goodIn_of _ (by decide +kernel)) gg_X12_text_X12_takeValley
theorem fk_24_25_29_43_53 {E : py_E} {G : wf_G} {L L1 : List Nat} {f f1 : py_F} {m : Nat} (hWF : WF E G L1 f1) (Tm : G.1 m = 13) (h : FK [24, 25, 29, 43, 53] f f1 m) {v0 : Int32} {v2 : Int32} {v3 : Int32} {v4 : Int32} {v5 : Int32} {v13 : Int32} {v14 : Int32} {v19 : Int32} {v20 : Int32} {v24 : Int32} {v25 : Int32} {v29 : Int32} {v30 : Int64} {v31 : Int32} {v32 : Int32} {v33 : Int32} {v34 : Int32} {v43 : Int32} {v48 : Int64} {v51 : Int32} {v52 : Int64} {v53 : Int32} (hr : py_at L f m (.inr (12, [.int v0, .ref (G.2 m 1), .int v2, .int v3, .int v4, .int v5, .ref (G.2 m 6), .ref (G.2 m 7), .ref (G.2 m 8), .ref (G.2 m 9), .ref (G.2 m 10), .ref (G.2 m 11), .ref (G.2 m 12), .int v13, .int v14, .ref (G.2 m 15), .ref (G.2 m 16), .ref (G.2 m 17), .ref (G.2 m 18), .int v19, .int v20, .ref (G.2 m 21), .ref (G.2 m 22), .ref (G.2 m 23), .int v24, .int v25, .ref (G.2 m 26), .ref (G.2 m 27), .ref (G.2 m 28), .int v29, .long v30, .int v31, .int v32, .int v33, .int v34, .ref (G.2 m 35), .ref (G.2 m 36), .ref (G.2 m 37), .ref (G.2 m 38), .ref (G.2 m 39), .ref (G.2 m 40), .ref (G.2 m 41), .ref (G.2 m 42), .int v43, .ref (G.2 m 44), .ref (G.2 m 45), .ref (G.2 m 46), .ref (G.2 m 47), .long v48, .ref (G.2 m 49), .ref (G.2 m 50), .int v51, .long v52, .int v53]))) : ∃ (w24 : Int32) (w25 : Int32) (w29 : Int32) (w43 : Int32) (w53 : Int32), py_at L1 f1 m (.inr (12, [.int v0, .ref (G.2 m 1), .int v2, .int v3, .int v4, .int v5, .ref (G.2 m 6), .ref (G.2 m 7), .ref (G.2 m 8), .ref (G.2 m 9), .ref (G.2 m 10), .ref (G.2 m 11), .ref (G.2 m 12), .int v13, .int v14, .ref (G.2 m 15), .ref (G.2 m 16), .ref (G.2 m 17), .ref (G.2 m 18), .int v19, .int v20, .ref (G.2 m 21), .ref (G.2 m 22), .ref (G.2 m 23), .int w24, .int w25, .ref (G.2 m 26), .ref (G.2 m 27), .ref (G.2 m 28), .int w29, .long v30, .int v31, .int v32, .int v33, .int v34, .ref (G.2 m 35), .ref (G.2 m 36), .ref (G.2 m 37), .ref (G.2 m 38), .ref (G.2 m 39), .ref (G.2 m 40), .ref (G.2 m 41), .ref (G.2 m 42), .int w43, .ref (G.2 m 44), .ref (G.2 m 45), .ref (G.2 m 46), .ref (G.2 m 47), .long v48, .ref (G.2 m 49), .ref (G.2 m 50), .int v51, .long v52, .int w53])) ∧ (0 ≤ w24.toInt ∧ w24.toInt ≤ 8) ∧ (0 ≤ w25.toInt ∧ w25.toInt ≤ 10) ∧ (0 ≤ w29.toInt ∧ w29.toInt ≤ 60) ∧ (0 ≤ w43.toInt ∧ w43.toInt ≤ 40) ∧ (0 ≤ w53.toInt ∧ w53.toInt ≤ 1) := by
  obtain ⟨w0, w2, w3, w4, w5, w13, w14, w19, w20, w24, w25, w29, w30, w31, w32, w33, w34, w43, w48, w51, w52, w53, hr1, b2, b13, b14, b19, b20, b24, b25, b29, b31, b43, b51, b53⟩ := wg_12 hWF Tm
  have e0 : w0 = v0 := Value.int.inj (Option.some.inj (show some (Value.int w0) = some (Value.int v0) from fk_i h hr hr1 0 (by decide) (by decide)))
  subst e0
  have e2 : w2 = v2 := Value.int.inj (Option.some.inj (show some (Value.int w2) = some (Value.int v2) from fk_i h hr hr1 2 (by decide) (by decide)))
  subst e2
  have e3 : w3 = v3 := Value.int.inj (Option.some.inj (show some (Value.int w3) = some (Value.int v3) from fk_i h hr hr1 3 (by decide) (by decide)))
  subst e3
  have e4 : w4 = v4 := Value.int.inj (Option.some.inj (show some (Value.int w4) = some (Value.int v4) from fk_i h hr hr1 4 (by decide) (by decide)))
  subst e4
  have e5 : w5 = v5 := Value.int.inj (Option.some.inj (show some (Value.int w5) = some (Value.int v5) from fk_i h hr hr1 5 (by decide) (by decide)))
  subst e5
  have e13 : w13 = v13 := Value.int.inj (Option.some.inj (show some (Value.int w13) = some (Value.int v13) from fk_i h hr hr1 13 (by decide) (by decide)))
  subst e13
  have e14 : w14 = v14 := Value.int.inj (Option.some.inj (show some (Value.int w14) = some (Value.int v14) from fk_i h hr hr1 14 (by decide) (by decide)))
  subst e14
  have e19 : w19 = v19 := Value.int.inj (Option.some.inj (show some (Value.int w19) = some (Value.int v19) from fk_i h hr hr1 19 (by decide) (by decide)))
  subst e19
  have e20 : w20 = v20 := Value.int.inj (Option.some.inj (show some (Value.int w20) = some (Value.int v20) from fk_i h hr hr1 20 (by decide) (by decide)))
  subst e20
  have e30 : w30 = v30 := Value.long.inj (Option.some.inj (show some (Value.long w30) = some (Value.long v30) from fk_i h hr hr1 30 (by decide) (by decide)))
  subst e30
  have e31 : w31 = v31 := Value.int.inj (Option.some.inj (show some (Value.int w31) = some (Value.int v31) from fk_i h hr hr1 31 (by decide) (by decide)))
  subst e31
  have e32 : w32 = v32 := Value.int.inj (Option.some.inj (show some (Value.int w32) = some (Value.int v32) from fk_i h hr hr1 32 (by decide) (by decide)))
  subst e32
  have e33 : w33 = v33 := Value.int.inj (Option.some.inj (show some (Value.int w33) = some (Value.int v33) from fk_i h hr hr1 33 (by decide) (by decide)))
  subst e33
  have e34 : w34 = v34 := Value.int.inj (Option.some.inj (show some (Value.int w34) = some (Value.int v34) from fk_i h hr hr1 34 (by decide) (by decide)))
  subst e34
  have e48 : w48 = v48 := Value.long.inj (Option.some.inj (show some (Value.long w48) = some (Value.long v48) from fk_i h hr hr1 48 (by decide) (by decide)))
  subst e48
  have e51 : w51 = v51 := Value.int.inj (Option.some.inj (show some (Value.int w51) = some (Value.int v51) from fk_i h hr hr1 51 (by decide) (by decide)))
  subst e51
  have e52 : w52 = v52 := Value.long.inj (Option.some.inj (show some (Value.long w52) = some (Value.long v52) from fk_i h hr hr1 52 (by decide) (by decide)))
  subst e52
  exact ⟨w24, w25, w29, w43, w53, hr1, b24, b25, b29, b43, b53⟩
set_option maxHeartbeats 4000000 in
set_option maxRecDepth 100000 in
theorem c_X12_text (l : Launch) (E : py_E) (G : wf_G) (L : List Nat) (f : py_F) (sz : Nat) (u : Nat) (a : Int32) (hG : GT G) (hWF : WF E G L f) (Tu : G.1 u = 13) (hq0 : GM f G u) : Met l yX12_text w_X12_text ({ frames := 69, cells := 0, slots := 0, locals := 3723 }) (py_Pc E [.ref u, .int a] L f sz) (py_Qi E L f sz (fun _ L1 f1 => (GM f1 G u) ∧ WF E G L1 f1 ∧ KP G [41, 42, 43, 44, 45, 46, 47, 50, 51, 52, 53, 54, 55, 13] false f f1 ∧ FK [2, 3, 4, 5, 13, 14, 19, 20, 24, 25, 29, 43, 53] f f1 u)) 0 0 (va_A (va_pl L f) sz) := by
  refine Met.ofW (cc := cX12_text) (maxL := 2) (ret := (some .int)) (by decide) rfl ?_
  intro p e s m args below meth c s₁ B hml hv
  obtain ⟨rfl, rfl, hw⟩ := py_start hv
  have G0 : CallFix p m c cX12_text 2 s _ w_X12_text RX12 := ⟨B.exec, B.bytes, hml, findClass_of_methodNamed B.named, atoms_spec (ws := w_X12_text) B.pre⟩
  have hr := B.returns
  have hlk := B.notSynchronized
  have kcm1 : (-1 : Int32).toInt = -1 := rfl
  have kc0 : (0 : Int32).toInt = 0 := rfl
  have kc1 : (1 : Int32).toInt = 1 := rfl
  have kc4 : (4 : Int32).toInt = 4 := rfl
  have hl := lv_entry ([.ref u, .int a]) (n := 2) (Nat.le_of_ble_eq_true rfl)
  rw [lg_entry_eq]
  generalize (lg_sl ([.ref u, .int a]) ++ List.replicate (2 - (lg_sl ([.ref u, .int a])).length) Slot.unset).toArray = ls at hl ⊢
  have hl : lv_has ls 2 [(0, .ref u), (1, .int a)] := hl
  have hFK : FK [2, 3, 4, 5, 13, 14, 19, 20, 24, 25, 29, 43, 53] f f u := FK.refl
  have hKP : KP G [41, 42, 43, 44, 45, 46, 47, 50, 51, 52, 53, 54, 55, 13] false f f := KP.refl
  have hGM := hq0
  refine lv_iload_n G0.1 G0.2.1 dX12_text_0 rfl (lv_at hl 1 rfl) ?_
  refine lv_if_ne (tgt := 22) G0.1 G0.2.1 dX12_text_1 (by decide) (fun c_1 => ?_) (fun c_1 => ?_)
  · skip
    have tc_1 := ti_ne c_1
    refine lv_iload_n G0.1 G0.2.1 dX12_text_22 rfl (lv_at hl 1 rfl) ?_
    refine lv_iconst (v := 1) G0.1 G0.2.1 dX12_text_23 (by decide) ?_
    refine lv_icmp_ne (tgt := 69) G0.1 G0.2.1 dX12_text_24 (by decide) (fun c_2 => ?_) (fun c_2 => ?_)
    · skip
      have tc_2 := ti_ne c_2
      refine lv_iconst (v := (-1)) G0.1 G0.2.1 dX12_text_69 (by decide) ?_
      exact py_iret G0 hr rfl hlk hw ⟨hGM, hWF, hKP, hFK⟩ dX12_text_70
    · skip
      have tc_2 := ti_eq c_2
      refine lv_aload_n G0.1 G0.2.1 dX12_text_27 rfl (lv_at hl 0 rfl) ?_
      obtain ⟨v_3, v_4, v_5, v_6, v_7, v_8, v_9, v_10, v_11, v_12, v_13, v_14, y_15, v_16, v_17, v_18, v_19, v_20, y_21, v_22, y_23, v_24, hr_37, b_25, b_26, b_27, b_28, b_29, b_30, b_31, b_32, b_33, b_34, b_35, b_36⟩ := wg_12 hWF Tu
      have tq_38 := mi_row hr_37 4 rfl
      have bv_6 := wf_free v_6
      have tq_39 := mi_row hr_37 13 rfl
      have tq_40 := mi_row hr_37 20 rfl
      have tq_41 := mi_row hr_37 31 rfl
      refine py_get (C := RX12) (T := TX12) (N := 54) (k := 13) (v := .int v_8) G0 hw in_X12_text_X12 rfl hr_37 (by decide) (by decide +kernel) rfl dX12_text_28 ?_
      refine lv_iconst (v := 4) G0.1 G0.2.1 dX12_text_31 (by decide) ?_
      refine lv_icmp_ge (tgt := 69) G0.1 G0.2.1 dX12_text_32 (by decide) (fun c_42 => ?_) (fun c_42 => ?_)
      · skip
        have tc_42 := ti_le c_42
        refine lv_iconst (v := (-1)) G0.1 G0.2.1 dX12_text_69 (by decide) ?_
        exact py_iret G0 hr rfl hlk hw ⟨hGM, hWF, hKP, hFK⟩ dX12_text_70
      · skip
        have tc_42 := ti_nle c_42
        refine lv_aload_n G0.1 G0.2.1 dX12_text_35 rfl (lv_at hl 0 rfl) ?_
        refine lv_aload_n G0.1 G0.2.1 dX12_text_36 rfl (lv_at hl 0 rfl) ?_
        refine py_get (C := RX12) (T := TX12) (N := 54) (k := 13) (v := .int v_8) G0 hw in_X12_text_X12 rfl hr_37 (by decide) (by decide +kernel) rfl dX12_text_37 ?_
        refine py_calli hw (va_runV (As := [.int v_8]) (rest := []) G0 (c_X12_readLaw l E G L f s.heap.size u v_8 hG hWF Tu ⟨by omega, by omega⟩) (cwV 1 G0.2.2.2.2 g_X12_text_X12_readLaw_284 rfl rfl rfl (by decide +kernel) ⟨(Nat.le_of_ble_eq_true rfl), (Nat.le_of_ble_eq_true rfl)⟩) (py_preV hw (C := RX12) (T := TX12) (N := 54) rfl hr_37) rfl rfl hl.1 rfl (lv_room (Nat.le_of_ble_eq_true rfl)) dX12_text_40 ⟨(Nat.le_of_ble_eq_true rfl), (Nat.le_of_ble_eq_true rfl)⟩) (fun r_47 L_43 f_44 H_45 locs hp_46 hw => ?_)
        obtain ⟨en_48, en_49, hWF, kp_50, fk_51⟩ := hp_46
        have hFK := hFK.trans fk_51 (by decide)
        have hKP := hKP.trans kp_50 (by decide) (by decide)
        obtain ⟨v_52, v_53, v_54, v_55, hr_56, b_57⟩ := fk_3_4_5_14 hWF Tu fk_51 hr_37
        have tq_58 := mi_row hr_56 4 rfl
        have bv_53 := wf_free v_53
        have tq_59 := mi_row hr_56 13 rfl
        have tq_60 := mi_row hr_56 20 rfl
        have tq_61 := mi_row hr_56 31 rfl
        have hGM : GM f_44 G u := hGM.lb en_49 (fk_mi fk_51 31 (by decide) (by decide)) (fk_mi fk_51 13 (by decide) (by decide)) (by omega)
        have hLVn : r_47.toInt = -1 → LV f_44 G u v_8.toInt := en_48
        have br_47 := wf_free r_47
        refine lv_iconst (v := (-1)) G0.1 G0.2.1 dX12_text_43 (by decide) ?_
        refine lv_icmp_ne (tgt := 69) G0.1 G0.2.1 dX12_text_44 (by decide) (fun c_62 => ?_) (fun c_62 => ?_)
        · skip
          have tc_62 := ti_ne c_62
          refine lv_iconst (v := (-1)) G0.1 G0.2.1 dX12_text_69 (by decide) ?_
          exact py_iret G0 hr rfl hlk hw ⟨hGM, hWF, hKP, hFK⟩ dX12_text_70
        · skip
          have tc_62 := ti_eq c_62
          refine lv_aload_n G0.1 G0.2.1 dX12_text_47 rfl (lv_at hl 0 rfl) ?_
          refine lv_iconst (v := 0) G0.1 G0.2.1 dX12_text_48 (by decide) ?_
          refine py_put (C := RX12) (T := TX12) (N := 54) (k := 2) (v := .int 0) (fs' := [.int v_3, .ref (G.2 u 1), .int 0, .int v_52, .int v_53, .int v_54, .ref (G.2 u 6), .ref (G.2 u 7), .ref (G.2 u 8), .ref (G.2 u 9), .ref (G.2 u 10), .ref (G.2 u 11), .ref (G.2 u 12), .int v_8, .int v_55, .ref (G.2 u 15), .ref (G.2 u 16), .ref (G.2 u 17), .ref (G.2 u 18), .int v_10, .int v_11, .ref (G.2 u 21), .ref (G.2 u 22), .ref (G.2 u 23), .int v_12, .int v_13, .ref (G.2 u 26), .ref (G.2 u 27), .ref (G.2 u 28), .int v_14, .long y_15, .int v_16, .int v_17, .int v_18, .int v_19, .ref (G.2 u 35), .ref (G.2 u 36), .ref (G.2 u 37), .ref (G.2 u 38), .ref (G.2 u 39), .ref (G.2 u 40), .ref (G.2 u 41), .ref (G.2 u 42), .int v_20, .ref (G.2 u 44), .ref (G.2 u 45), .ref (G.2 u 46), .ref (G.2 u 47), .long y_21, .ref (G.2 u 49), .ref (G.2 u 50), .int v_22, .long y_23, .int v_24]) (ty0 := tyX12) G0 hw tyX12_ok nmX12 in_X12_text_X12 rfl hr_56 (by decide) (by decide +kernel) rfl rfl rfl rfl (Nat.le_of_ble_eq_true rfl) rfl dX12_text_49 (fun f_63 H_64 locs h_65 x_66 hw => ?_)
          have hGM := hGM.own hG hWF Tu x_66 (by have z1 := mi_row hr_56 13 rfl; have z2 := mi_row h_65 13 rfl; omega) (by have z1 := mi_row hr_56 31 rfl; have z2 := mi_row h_65 31 rfl; omega)
          have hLVn := fun hy => (hLVn hy).own hG hWF Tu x_66
          have hFK := hFK.put hr_56 h_65 2 (by decide) rfl
          have hKP := hKP.upd hWF x_66 Tu (Or.inl (by decide))
          have hWF := wf_upd hWF h_65 x_66 (by rw [Tu]; exact ⟨v_3, 0, v_52, v_53, v_54, v_8, v_55, v_10, v_11, v_12, v_13, v_14, y_15, v_16, v_17, v_18, v_19, v_20, y_21, v_22, y_23, v_24, rfl, ⟨by omega, by omega⟩, ⟨by omega, by omega⟩, ⟨by omega, by omega⟩, ⟨by omega, by omega⟩, ⟨by omega, by omega⟩, ⟨by omega, by omega⟩, ⟨by omega, by omega⟩, ⟨by omega, by omega⟩, ⟨by omega, by omega⟩, ⟨by omega, by omega⟩, ⟨by omega, by omega⟩, ⟨by omega, by omega⟩⟩)
          have tq_67 := mi_row h_65 4 rfl
          have bv_53 := wf_free v_53
          have tq_68 := mi_row h_65 13 rfl
          have tq_69 := mi_row h_65 20 rfl
          have tq_70 := mi_row h_65 31 rfl
          refine lv_aload_n G0.1 G0.2.1 dX12_text_52 rfl (lv_at hl 0 rfl) ?_
          refine lv_dup G0.1 G0.2.1 dX12_text_53 rfl ?_
          refine py_get (C := RX12) (T := TX12) (N := 54) (k := 13) (v := .int v_8) G0 hw in_X12_text_X12 rfl h_65 (by decide) (by decide +kernel) rfl dX12_text_54 ?_
          refine lv_iconst (v := 1) G0.1 G0.2.1 dX12_text_57 (by decide) ?_
          refine lv_iadd G0.1 G0.2.1 dX12_text_58 ?_
          refine lv_topi (fun x_71 ex_71 => ?_)
          first | have tx_71 := ti_add ex_71 (by omega -splitDisjunctions) (by omega -splitDisjunctions) | skip
          refine py_put (C := RX12) (T := TX12) (N := 54) (k := 13) (v := .int x_71) (fs' := [.int v_3, .ref (G.2 u 1), .int 0, .int v_52, .int v_53, .int v_54, .ref (G.2 u 6), .ref (G.2 u 7), .ref (G.2 u 8), .ref (G.2 u 9), .ref (G.2 u 10), .ref (G.2 u 11), .ref (G.2 u 12), .int x_71, .int v_55, .ref (G.2 u 15), .ref (G.2 u 16), .ref (G.2 u 17), .ref (G.2 u 18), .int v_10, .int v_11, .ref (G.2 u 21), .ref (G.2 u 22), .ref (G.2 u 23), .int v_12, .int v_13, .ref (G.2 u 26), .ref (G.2 u 27), .ref (G.2 u 28), .int v_14, .long y_15, .int v_16, .int v_17, .int v_18, .int v_19, .ref (G.2 u 35), .ref (G.2 u 36), .ref (G.2 u 37), .ref (G.2 u 38), .ref (G.2 u 39), .ref (G.2 u 40), .ref (G.2 u 41), .ref (G.2 u 42), .int v_20, .ref (G.2 u 44), .ref (G.2 u 45), .ref (G.2 u 46), .ref (G.2 u 47), .long y_21, .ref (G.2 u 49), .ref (G.2 u 50), .int v_22, .long y_23, .int v_24]) (ty0 := tyX12) G0 hw tyX12_ok nmX12 in_X12_text_X12 rfl h_65 (by decide) (by decide +kernel) rfl rfl rfl rfl (Nat.le_of_ble_eq_true rfl) rfl dX12_text_59 (fun f_72 H_73 locs h_74 x_75 hw => ?_)
          have hGM := hGM.told hLVn (by omega) hG hWF Tu x_75 (by have z1 := mi_row h_65 13 rfl; have z2 := mi_row h_74 13 rfl; omega) (by have z1 := mi_row h_65 31 rfl; have z2 := mi_row h_74 31 rfl; omega)
          have hLVn := fun hy => (hLVn hy).own hG hWF Tu x_75
          have hFK := hFK.put h_65 h_74 13 (by decide) rfl
          have hKP := hKP.upd hWF x_75 Tu (Or.inl (by decide))
          have hWF := wf_upd hWF h_74 x_75 (by rw [Tu]; exact ⟨v_3, 0, v_52, v_53, v_54, x_71, v_55, v_10, v_11, v_12, v_13, v_14, y_15, v_16, v_17, v_18, v_19, v_20, y_21, v_22, y_23, v_24, rfl, ⟨by omega, by omega⟩, ⟨by omega, by omega⟩, ⟨by omega, by omega⟩, ⟨by omega, by omega⟩, ⟨by omega, by omega⟩, ⟨by omega, by omega⟩, ⟨by omega, by omega⟩, ⟨by omega, by omega⟩, ⟨by omega, by omega⟩, ⟨by omega, by omega⟩, ⟨by omega, by omega⟩, ⟨by omega, by omega⟩⟩)
          have tq_76 := mi_row h_74 4 rfl
          have bv_53 := wf_free v_53
          have tq_77 := mi_row h_74 13 rfl
          have tq_78 := mi_row h_74 20 rfl
          have tq_79 := mi_row h_74 31 rfl
          refine lv_aload_n G0.1 G0.2.1 dX12_text_62 rfl (lv_at hl 0 rfl) ?_
          refine py_get (C := RX12) (T := TX12) (N := 54) (k := 13) (v := .int x_71) G0 hw in_X12_text_X12 rfl h_74 (by decide) (by decide +kernel) rfl dX12_text_63 ?_
          refine lv_iconst (v := 1) G0.1 G0.2.1 dX12_text_66 (by decide) ?_
          refine lv_isub G0.1 G0.2.1 dX12_text_67 ?_
          refine lv_topi (fun x_80 ex_80 => ?_)
          first | have tx_80 := ti_sub ex_80 (by omega -splitDisjunctions) (by omega -splitDisjunctions) | skip
          exact py_iret G0 hr rfl hlk hw ⟨hGM, hWF, hKP, hFK⟩ dX12_text_68
  · skip
    have tc_1 := ti_eq c_1
    refine lv_aload_n G0.1 G0.2.1 dX12_text_4 rfl (lv_at hl 0 rfl) ?_
    obtain ⟨v_81, v_82, v_83, v_84, v_85, v_86, v_87, v_88, v_89, v_90, v_91, v_92, y_93, v_94, v_95, v_96, v_97, v_98, y_99, v_100, y_101, v_102, hr_115, b_103, b_104, b_105, b_106, b_107, b_108, b_109, b_110, b_111, b_112, b_113, b_114⟩ := wg_12 hWF Tu
    have tq_116 := mi_row hr_115 4 rfl
    have bv_84 := wf_free v_84
    have tq_117 := mi_row hr_115 13 rfl
    have tq_118 := mi_row hr_115 20 rfl
    have tq_119 := mi_row hr_115 31 rfl
    refine py_calli hw (va_runV (As := []) (rest := []) G0 (c_X12_readValley l E G L f s.heap.size u hG hWF Tu) (cwV 0 G0.2.2.2.2 g_X12_text_X12_readValley_281 rfl rfl rfl (by decide +kernel) ⟨(Nat.le_of_ble_eq_true rfl), (Nat.le_of_ble_eq_true rfl)⟩) (py_preV hw (C := RX12) (T := TX12) (N := 54) rfl hr_115) rfl rfl hl.1 rfl (lv_room (Nat.le_of_ble_eq_true rfl)) dX12_text_5 ⟨(Nat.le_of_ble_eq_true rfl), (Nat.le_of_ble_eq_true rfl)⟩) (fun r_124 L_120 f_121 H_122 locs hp_123 hw => ?_)
    obtain ⟨en_125, hWF, kp_126, fk_127⟩ := hp_123
    have hGM := hGM.kp hG Tu kp_126 fk_127 (LK.of (by decide)) (by decide)
    have hFK := hFK.trans fk_127 (by decide)
    have hKP := hKP.trans kp_126 (by decide) (by decide)
    obtain ⟨v_128, v_129, v_130, v_131, hr_132, b_133, b_134⟩ := fk_3_4_19_20 hWF Tu fk_127 hr_115
    have tq_135 := mi_row hr_132 4 rfl
    have bv_129 := wf_free v_129
    have tq_136 := mi_row hr_132 13 rfl
    have tq_137 := mi_row hr_132 20 rfl
    have tq_138 := mi_row hr_132 31 rfl
    have br_124 := wf_free r_124
    refine lv_iconst (v := (-1)) G0.1 G0.2.1 dX12_text_8 (by decide) ?_
    refine lv_icmp_ne (tgt := 22) G0.1 G0.2.1 dX12_text_9 (by decide) (fun c_139 => ?_) (fun c_139 => ?_)
    · skip
      have tc_139 := ti_ne c_139
      refine lv_iload_n G0.1 G0.2.1 dX12_text_22 rfl (lv_at hl 1 rfl) ?_
      refine lv_iconst (v := 1) G0.1 G0.2.1 dX12_text_23 (by decide) ?_
      refine lv_icmp_ne (tgt := 69) G0.1 G0.2.1 dX12_text_24 (by decide) (fun c_140 => ?_) (fun c_140 => ?_)
      · skip
        have tc_140 := ti_ne c_140
        refine lv_iconst (v := (-1)) G0.1 G0.2.1 dX12_text_69 (by decide) ?_
        exact py_iret G0 hr rfl hlk hw ⟨hGM, hWF, hKP, hFK⟩ dX12_text_70
      · skip
        have tc_140 := ti_eq c_140
        refine lv_aload_n G0.1 G0.2.1 dX12_text_27 rfl (lv_at hl 0 rfl) ?_
        refine py_get (C := RX12) (T := TX12) (N := 54) (k := 13) (v := .int v_86) G0 hw in_X12_text_X12 rfl hr_132 (by decide) (by decide +kernel) rfl dX12_text_28 ?_
        refine lv_iconst (v := 4) G0.1 G0.2.1 dX12_text_31 (by decide) ?_
        refine lv_icmp_ge (tgt := 69) G0.1 G0.2.1 dX12_text_32 (by decide) (fun c_141 => ?_) (fun c_141 => ?_)
        · skip
          have tc_141 := ti_le c_141
          refine lv_iconst (v := (-1)) G0.1 G0.2.1 dX12_text_69 (by decide) ?_
          exact py_iret G0 hr rfl hlk hw ⟨hGM, hWF, hKP, hFK⟩ dX12_text_70
        · skip
          have tc_141 := ti_nle c_141
          refine lv_aload_n G0.1 G0.2.1 dX12_text_35 rfl (lv_at hl 0 rfl) ?_
          refine lv_aload_n G0.1 G0.2.1 dX12_text_36 rfl (lv_at hl 0 rfl) ?_
          refine py_get (C := RX12) (T := TX12) (N := 54) (k := 13) (v := .int v_86) G0 hw in_X12_text_X12 rfl hr_132 (by decide) (by decide +kernel) rfl dX12_text_37 ?_
          refine py_calli hw (va_runV (As := [.int v_86]) (rest := []) G0 (c_X12_readLaw l E G L_120 f_121 H_122.size u v_86 hG hWF Tu ⟨by omega, by omega⟩) (cwV 1 G0.2.2.2.2 g_X12_text_X12_readLaw_284 rfl rfl rfl (by decide +kernel) ⟨(Nat.le_of_ble_eq_true rfl), (Nat.le_of_ble_eq_true rfl)⟩) (py_preV hw (C := RX12) (T := TX12) (N := 54) rfl hr_132) rfl rfl hl.1 rfl (lv_room (Nat.le_of_ble_eq_true rfl)) dX12_text_40 ⟨(Nat.le_of_ble_eq_true rfl), (Nat.le_of_ble_eq_true rfl)⟩) (fun r_146 L_142 f_143 H_144 locs hp_145 hw => ?_)
          obtain ⟨en_147, en_148, hWF, kp_149, fk_150⟩ := hp_145
          have hFK := hFK.trans fk_150 (by decide)
          have hKP := hKP.trans kp_149 (by decide) (by decide)
          obtain ⟨v_151, v_152, v_153, v_154, hr_155, b_156⟩ := fk_3_4_5_14 hWF Tu fk_150 hr_132
          have tq_157 := mi_row hr_155 4 rfl
          have bv_152 := wf_free v_152
          have tq_158 := mi_row hr_155 13 rfl
          have tq_159 := mi_row hr_155 20 rfl
          have tq_160 := mi_row hr_155 31 rfl
          have hGM : GM f_143 G u := hGM.lb en_148 (fk_mi fk_150 31 (by decide) (by decide)) (fk_mi fk_150 13 (by decide) (by decide)) (by omega)
          have hLVn : r_146.toInt = -1 → LV f_143 G u v_86.toInt := en_147
          have br_146 := wf_free r_146
          refine lv_iconst (v := (-1)) G0.1 G0.2.1 dX12_text_43 (by decide) ?_
          refine lv_icmp_ne (tgt := 69) G0.1 G0.2.1 dX12_text_44 (by decide) (fun c_161 => ?_) (fun c_161 => ?_)
          · skip
            have tc_161 := ti_ne c_161
            refine lv_iconst (v := (-1)) G0.1 G0.2.1 dX12_text_69 (by decide) ?_
            exact py_iret G0 hr rfl hlk hw ⟨hGM, hWF, hKP, hFK⟩ dX12_text_70
          · skip
            have tc_161 := ti_eq c_161
            refine lv_aload_n G0.1 G0.2.1 dX12_text_47 rfl (lv_at hl 0 rfl) ?_
            refine lv_iconst (v := 0) G0.1 G0.2.1 dX12_text_48 (by decide) ?_
            refine py_put (C := RX12) (T := TX12) (N := 54) (k := 2) (v := .int 0) (fs' := [.int v_81, .ref (G.2 u 1), .int 0, .int v_151, .int v_152, .int v_153, .ref (G.2 u 6), .ref (G.2 u 7), .ref (G.2 u 8), .ref (G.2 u 9), .ref (G.2 u 10), .ref (G.2 u 11), .ref (G.2 u 12), .int v_86, .int v_154, .ref (G.2 u 15), .ref (G.2 u 16), .ref (G.2 u 17), .ref (G.2 u 18), .int v_130, .int v_131, .ref (G.2 u 21), .ref (G.2 u 22), .ref (G.2 u 23), .int v_90, .int v_91, .ref (G.2 u 26), .ref (G.2 u 27), .ref (G.2 u 28), .int v_92, .long y_93, .int v_94, .int v_95, .int v_96, .int v_97, .ref (G.2 u 35), .ref (G.2 u 36), .ref (G.2 u 37), .ref (G.2 u 38), .ref (G.2 u 39), .ref (G.2 u 40), .ref (G.2 u 41), .ref (G.2 u 42), .int v_98, .ref (G.2 u 44), .ref (G.2 u 45), .ref (G.2 u 46), .ref (G.2 u 47), .long y_99, .ref (G.2 u 49), .ref (G.2 u 50), .int v_100, .long y_101, .int v_102]) (ty0 := tyX12) G0 hw tyX12_ok nmX12 in_X12_text_X12 rfl hr_155 (by decide) (by decide +kernel) rfl rfl rfl rfl (Nat.le_of_ble_eq_true rfl) rfl dX12_text_49 (fun f_162 H_163 locs h_164 x_165 hw => ?_)
            have hGM := hGM.own hG hWF Tu x_165 (by have z1 := mi_row hr_155 13 rfl; have z2 := mi_row h_164 13 rfl; omega) (by have z1 := mi_row hr_155 31 rfl; have z2 := mi_row h_164 31 rfl; omega)
            have hLVn := fun hy => (hLVn hy).own hG hWF Tu x_165
            have hFK := hFK.put hr_155 h_164 2 (by decide) rfl
            have hKP := hKP.upd hWF x_165 Tu (Or.inl (by decide))
            have hWF := wf_upd hWF h_164 x_165 (by rw [Tu]; exact ⟨v_81, 0, v_151, v_152, v_153, v_86, v_154, v_130, v_131, v_90, v_91, v_92, y_93, v_94, v_95, v_96, v_97, v_98, y_99, v_100, y_101, v_102, rfl, ⟨by omega, by omega⟩, ⟨by omega, by omega⟩, ⟨by omega, by omega⟩, ⟨by omega, by omega⟩, ⟨by omega, by omega⟩, ⟨by omega, by omega⟩, ⟨by omega, by omega⟩, ⟨by omega, by omega⟩, ⟨by omega, by omega⟩, ⟨by omega, by omega⟩, ⟨by omega, by omega⟩, ⟨by omega, by omega⟩⟩)
            have tq_166 := mi_row h_164 4 rfl
            have bv_152 := wf_free v_152
            have tq_167 := mi_row h_164 13 rfl
            have tq_168 := mi_row h_164 20 rfl
            have tq_169 := mi_row h_164 31 rfl
            refine lv_aload_n G0.1 G0.2.1 dX12_text_52 rfl (lv_at hl 0 rfl) ?_
            refine lv_dup G0.1 G0.2.1 dX12_text_53 rfl ?_
            refine py_get (C := RX12) (T := TX12) (N := 54) (k := 13) (v := .int v_86) G0 hw in_X12_text_X12 rfl h_164 (by decide) (by decide +kernel) rfl dX12_text_54 ?_
            refine lv_iconst (v := 1) G0.1 G0.2.1 dX12_text_57 (by decide) ?_
            refine lv_iadd G0.1 G0.2.1 dX12_text_58 ?_
            refine lv_topi (fun x_170 ex_170 => ?_)
            first | have tx_170 := ti_add ex_170 (by omega -splitDisjunctions) (by omega -splitDisjunctions) | skip
            refine py_put (C := RX12) (T := TX12) (N := 54) (k := 13) (v := .int x_170) (fs' := [.int v_81, .ref (G.2 u 1), .int 0, .int v_151, .int v_152, .int v_153, .ref (G.2 u 6), .ref (G.2 u 7), .ref (G.2 u 8), .ref (G.2 u 9), .ref (G.2 u 10), .ref (G.2 u 11), .ref (G.2 u 12), .int x_170, .int v_154, .ref (G.2 u 15), .ref (G.2 u 16), .ref (G.2 u 17), .ref (G.2 u 18), .int v_130, .int v_131, .ref (G.2 u 21), .ref (G.2 u 22), .ref (G.2 u 23), .int v_90, .int v_91, .ref (G.2 u 26), .ref (G.2 u 27), .ref (G.2 u 28), .int v_92, .long y_93, .int v_94, .int v_95, .int v_96, .int v_97, .ref (G.2 u 35), .ref (G.2 u 36), .ref (G.2 u 37), .ref (G.2 u 38), .ref (G.2 u 39), .ref (G.2 u 40), .ref (G.2 u 41), .ref (G.2 u 42), .int v_98, .ref (G.2 u 44), .ref (G.2 u 45), .ref (G.2 u 46), .ref (G.2 u 47), .long y_99, .ref (G.2 u 49), .ref (G.2 u 50), .int v_100, .long y_101, .int v_102]) (ty0 := tyX12) G0 hw tyX12_ok nmX12 in_X12_text_X12 rfl h_164 (by decide) (by decide +kernel) rfl rfl rfl rfl (Nat.le_of_ble_eq_true rfl) rfl dX12_text_59 (fun f_171 H_172 locs h_173 x_174 hw => ?_)
            have hGM := hGM.told hLVn (by omega) hG hWF Tu x_174 (by have z1 := mi_row h_164 13 rfl; have z2 := mi_row h_173 13 rfl; omega) (by have z1 := mi_row h_164 31 rfl; have z2 := mi_row h_173 31 rfl; omega)
            have hLVn := fun hy => (hLVn hy).own hG hWF Tu x_174
            have hFK := hFK.put h_164 h_173 13 (by decide) rfl
            have hKP := hKP.upd hWF x_174 Tu (Or.inl (by decide))
            have hWF := wf_upd hWF h_173 x_174 (by rw [Tu]; exact ⟨v_81, 0, v_151, v_152, v_153, x_170, v_154, v_130, v_131, v_90, v_91, v_92, y_93, v_94, v_95, v_96, v_97, v_98, y_99, v_100, y_101, v_102, rfl, ⟨by omega, by omega⟩, ⟨by omega, by omega⟩, ⟨by omega, by omega⟩, ⟨by omega, by omega⟩, ⟨by omega, by omega⟩, ⟨by omega, by omega⟩, ⟨by omega, by omega⟩, ⟨by omega, by omega⟩, ⟨by omega, by omega⟩, ⟨by omega, by omega⟩, ⟨by omega, by omega⟩, ⟨by omega, by omega⟩⟩)
            have tq_175 := mi_row h_173 4 rfl
            have bv_152 := wf_free v_152
            have tq_176 := mi_row h_173 13 rfl
            have tq_177 := mi_row h_173 20 rfl
            have tq_178 := mi_row h_173 31 rfl
            refine lv_aload_n G0.1 G0.2.1 dX12_text_62 rfl (lv_at hl 0 rfl) ?_
            refine py_get (C := RX12) (T := TX12) (N := 54) (k := 13) (v := .int x_170) G0 hw in_X12_text_X12 rfl h_173 (by decide) (by decide +kernel) rfl dX12_text_63 ?_
            refine lv_iconst (v := 1) G0.1 G0.2.1 dX12_text_66 (by decide) ?_
            refine lv_isub G0.1 G0.2.1 dX12_text_67 ?_
            refine lv_topi (fun x_179 ex_179 => ?_)
            first | have tx_179 := ti_sub ex_179 (by omega -splitDisjunctions) (by omega -splitDisjunctions) | skip
            exact py_iret G0 hr rfl hlk hw ⟨hGM, hWF, hKP, hFK⟩ dX12_text_68
    · skip
      have tc_139 := ti_eq c_139
      refine lv_aload_n G0.1 G0.2.1 dX12_text_12 rfl (lv_at hl 0 rfl) ?_
      refine lv_iconst (v := 0) G0.1 G0.2.1 dX12_text_13 (by decide) ?_
      refine py_put (C := RX12) (T := TX12) (N := 54) (k := 2) (v := .int 0) (fs' := [.int v_81, .ref (G.2 u 1), .int 0, .int v_128, .int v_129, .int v_85, .ref (G.2 u 6), .ref (G.2 u 7), .ref (G.2 u 8), .ref (G.2 u 9), .ref (G.2 u 10), .ref (G.2 u 11), .ref (G.2 u 12), .int v_86, .int v_87, .ref (G.2 u 15), .ref (G.2 u 16), .ref (G.2 u 17), .ref (G.2 u 18), .int v_130, .int v_131, .ref (G.2 u 21), .ref (G.2 u 22), .ref (G.2 u 23), .int v_90, .int v_91, .ref (G.2 u 26), .ref (G.2 u 27), .ref (G.2 u 28), .int v_92, .long y_93, .int v_94, .int v_95, .int v_96, .int v_97, .ref (G.2 u 35), .ref (G.2 u 36), .ref (G.2 u 37), .ref (G.2 u 38), .ref (G.2 u 39), .ref (G.2 u 40), .ref (G.2 u 41), .ref (G.2 u 42), .int v_98, .ref (G.2 u 44), .ref (G.2 u 45), .ref (G.2 u 46), .ref (G.2 u 47), .long y_99, .ref (G.2 u 49), .ref (G.2 u 50), .int v_100, .long y_101, .int v_102]) (ty0 := tyX12) G0 hw tyX12_ok nmX12 in_X12_text_X12 rfl hr_132 (by decide) (by decide +kernel) rfl rfl rfl rfl (Nat.le_of_ble_eq_true rfl) rfl dX12_text_14 (fun f_180 H_181 locs h_182 x_183 hw => ?_)
      have hGM := hGM.own hG hWF Tu x_183 (by have z1 := mi_row hr_132 13 rfl; have z2 := mi_row h_182 13 rfl; omega) (by have z1 := mi_row hr_132 31 rfl; have z2 := mi_row h_182 31 rfl; omega)
      have hFK := hFK.put hr_132 h_182 2 (by decide) rfl
      have hKP := hKP.upd hWF x_183 Tu (Or.inl (by decide))
      have hWF := wf_upd hWF h_182 x_183 (by rw [Tu]; exact ⟨v_81, 0, v_128, v_129, v_85, v_86, v_87, v_130, v_131, v_90, v_91, v_92, y_93, v_94, v_95, v_96, v_97, v_98, y_99, v_100, y_101, v_102, rfl, ⟨by omega, by omega⟩, ⟨by omega, by omega⟩, ⟨by omega, by omega⟩, ⟨by omega, by omega⟩, ⟨by omega, by omega⟩, ⟨by omega, by omega⟩, ⟨by omega, by omega⟩, ⟨by omega, by omega⟩, ⟨by omega, by omega⟩, ⟨by omega, by omega⟩, ⟨by omega, by omega⟩, ⟨by omega, by omega⟩⟩)
      have tq_184 := mi_row h_182 4 rfl
      have bv_129 := wf_free v_129
      have tq_185 := mi_row h_182 13 rfl
      have tq_186 := mi_row h_182 20 rfl
      have tq_187 := mi_row h_182 31 rfl
      refine lv_aload_n G0.1 G0.2.1 dX12_text_17 rfl (lv_at hl 0 rfl) ?_
      have hrf0 := en_125 (by omega)
      have hrf := hrf0.same (x_183 _ (hWF _ (by rw [wt12_18 hG Tu]; decide)).1 (wf_ne (wt12_18 hG Tu) Tu (by decide))).2 (show mi f_180 u 20 = mi f_121 u 20 by omega)
      refine py_calli hw (va_runV (As := []) (rest := []) G0 (c_X12_takeValley l E G L_120 f_180 H_181.size u hG hWF Tu hrf) (cwV 0 G0.2.2.2.2 g_X12_text_X12_takeValley_319 rfl rfl rfl (by decide +kernel) ⟨(Nat.le_of_ble_eq_true rfl), (Nat.le_of_ble_eq_true rfl)⟩) (py_preV hw (C := RX12) (T := TX12) (N := 54) rfl h_182) rfl rfl hl.1 rfl (lv_room (Nat.le_of_ble_eq_true rfl)) dX12_text_18 ⟨(Nat.le_of_ble_eq_true rfl), (Nat.le_of_ble_eq_true rfl)⟩) (fun r_192 L_188 f_189 H_190 locs hp_191 hw => ?_)
      obtain ⟨hWF, kp_193, fk_194⟩ := hp_191
      have hGM := hGM.kp hG Tu kp_193 fk_194 (LK.of (by decide)) (by decide)
      have hFK := hFK.trans fk_194 (by decide)
      have hKP := hKP.trans kp_193 (by decide) (by decide)
      obtain ⟨v_195, v_196, v_197, v_198, v_199, hr_200, b_201, b_202, b_203, b_204, b_205⟩ := fk_24_25_29_43_53 hWF Tu fk_194 h_182
      have tq_206 := mi_row hr_200 4 rfl
      have bv_129 := wf_free v_129
      have tq_207 := mi_row hr_200 13 rfl
      have tq_208 := mi_row hr_200 20 rfl
      have tq_209 := mi_row hr_200 31 rfl
      have br_192 := wf_free r_192
      exact py_iret G0 hr rfl hlk hw ⟨hGM, hWF, hKP, hFK⟩ dX12_text_21

def w_X12_fault : List Cond := .code yX12_fault cX12_fault 2 (some .int) :: ([Cond.methodLink RX12 284 yX12_readLaw, Cond.instanceMethod yX12_readLaw, Cond.selects RX12 yX12_readLaw yX12_readLaw, Cond.initialized RX12, Cond.methodLink RX12 281 yX12_readValley, Cond.instanceMethod yX12_readValley, Cond.selects RX12 yX12_readValley yX12_readValley] ++ (w_X12_readLaw ++ (w_X12_readValley ++ ([]))))
theorem gg_X12_fault_X12_readLaw : GoodIn w_X12_fault w_X12_readLaw := goodIn_sub (fun _ h => List.mem_cons_of_mem _ (List.mem_append_right _ (List.mem_append_left _ h))) (by decide +kernel)
theorem gg_X12_fault_X12_readValley : GoodIn w_X12_fault w_X12_readValley := goodIn_sub (fun _ h => List.mem_cons_of_mem _ (List.mem_append_right _ (List.mem_append_right _ (List.mem_append_left _ h)))) (by decide +kernel)
theorem g_X12_fault_X12_readLaw_284 : GoodIn w_X12_fault (wsV RX12 284 RX12 yX12_readLaw w_X12_readLaw) := goodIn_app (goodIn_of _ (by decide +kernel)) gg_X12_fault_X12_readLaw
theorem g_X12_fault_X12_readValley_281 : GoodIn w_X12_fault (wsV RX12 281 RX12 yX12_readValley w_X12_readValley) := goodIn_app (goodIn_of _ (by decide +kernel)) gg_X12_fault_X12_readValley
set_option maxHeartbeats 4000000 in
set_option maxRecDepth 100000 in
theorem c_X12_fault (l : Launch) (E : py_E) (G : wf_G) (L : List Nat) (f : py_F) (sz : Nat) (u : Nat) (a : Int32) (hG : GT G) (hWF : WF E G L f) (Tu : G.1 u = 13) (hq0 : GM f G u) : Met l yX12_fault w_X12_fault ({ frames := 69, cells := 0, slots := 0, locals := 3723 }) (py_Pc E [.ref u, .int a] L f sz) (py_Qi E L f sz (fun _ L1 f1 => (GM f1 G u) ∧ WF E G L1 f1 ∧ KP G [41, 42, 43, 44, 45, 46, 47, 50, 51, 13] false f f1 ∧ FK [3, 4, 5, 14, 19, 20] f f1 u)) 0 0 (va_A (va_pl L f) sz) := by
  refine Met.ofW (cc := cX12_fault) (maxL := 2) (ret := (some .int)) (by decide) rfl ?_
  intro p e s m args below meth c s₁ B hml hv
  obtain ⟨rfl, rfl, hw⟩ := py_start hv
  have G0 : CallFix p m c cX12_fault 2 s _ w_X12_fault RX12 := ⟨B.exec, B.bytes, hml, findClass_of_methodNamed B.named, atoms_spec (ws := w_X12_fault) B.pre⟩
  have hr := B.returns
  have hlk := B.notSynchronized
  have kcm2 : (-2 : Int32).toInt = -2 := rfl
  have kcm1 : (-1 : Int32).toInt = -1 := rfl
  have kc0 : (0 : Int32).toInt = 0 := rfl
  have kc1 : (1 : Int32).toInt = 1 := rfl
  have kc4 : (4 : Int32).toInt = 4 := rfl
  have hl := lv_entry ([.ref u, .int a]) (n := 2) (Nat.le_of_ble_eq_true rfl)
  rw [lg_entry_eq]
  generalize (lg_sl ([.ref u, .int a]) ++ List.replicate (2 - (lg_sl ([.ref u, .int a])).length) Slot.unset).toArray = ls at hl ⊢
  have hl : lv_has ls 2 [(0, .ref u), (1, .int a)] := hl
  have hFK : FK [3, 4, 5, 14, 19, 20] f f u := FK.refl
  have hKP : KP G [41, 42, 43, 44, 45, 46, 47, 50, 51, 13] false f f := KP.refl
  have hGM := hq0
  refine lv_iload_n G0.1 G0.2.1 dX12_fault_0 rfl (lv_at hl 1 rfl) ?_
  refine lv_if_ne (tgt := 11) G0.1 G0.2.1 dX12_fault_1 (by decide) (fun c_1 => ?_) (fun c_1 => ?_)
  · skip
    have tc_1 := ti_ne c_1
    refine lv_iload_n G0.1 G0.2.1 dX12_fault_11 rfl (lv_at hl 1 rfl) ?_
    refine lv_iconst (v := 1) G0.1 G0.2.1 dX12_fault_12 (by decide) ?_
    refine lv_icmp_ne (tgt := 24) G0.1 G0.2.1 dX12_fault_13 (by decide) (fun c_2 => ?_) (fun c_2 => ?_)
    · skip
      have tc_2 := ti_ne c_2
      refine lv_bipush (v := (-2)) G0.1 G0.2.1 dX12_fault_24 (by decide) ?_
      exact py_iret G0 hr rfl hlk hw ⟨hGM, hWF, hKP, hFK⟩ dX12_fault_26
    · skip
      have tc_2 := ti_eq c_2
      refine lv_aload_n G0.1 G0.2.1 dX12_fault_16 rfl (lv_at hl 0 rfl) ?_
      refine lv_iconst (v := 4) G0.1 G0.2.1 dX12_fault_17 (by decide) ?_
      obtain ⟨v_3, v_4, v_5, v_6, v_7, v_8, v_9, v_10, v_11, v_12, v_13, v_14, y_15, v_16, v_17, v_18, v_19, v_20, y_21, v_22, y_23, v_24, hr_37, b_25, b_26, b_27, b_28, b_29, b_30, b_31, b_32, b_33, b_34, b_35, b_36⟩ := wg_12 hWF Tu
      have tq_38 := mi_row hr_37 13 rfl
      have tq_39 := mi_row hr_37 31 rfl
      refine py_calli hw (va_runV (As := [.int 4]) (rest := []) G0 (c_X12_readLaw l E G L f s.heap.size u 4 hG hWF Tu ⟨by omega, by omega⟩) (cwV 1 G0.2.2.2.2 g_X12_fault_X12_readLaw_284 rfl rfl rfl (by decide +kernel) ⟨(Nat.le_of_ble_eq_true rfl), (Nat.le_of_ble_eq_true rfl)⟩) (py_preV hw (C := RX12) (T := TX12) (N := 54) rfl hr_37) rfl rfl hl.1 rfl (lv_room (Nat.le_of_ble_eq_true rfl)) dX12_fault_18 ⟨(Nat.le_of_ble_eq_true rfl), (Nat.le_of_ble_eq_true rfl)⟩) (fun r_44 L_40 f_41 H_42 locs hp_43 hw => ?_)
      obtain ⟨en_45, en_46, hWF, kp_47, fk_48⟩ := hp_43
      have en_45 : r_44.toInt = -1 → LV f_41 G u (4 : Int) := en_45
      have en_46 : LB f G u f_41 (4 : Int) := en_46
      have hFK := hFK.trans fk_48 (by decide)
      have hKP := hKP.trans kp_47 (by decide) (by decide)
      obtain ⟨v_49, v_50, v_51, v_52, hr_53, b_54⟩ := fk_3_4_5_14 hWF Tu fk_48 hr_37
      have tq_55 := mi_row hr_53 13 rfl
      have tq_56 := mi_row hr_53 31 rfl
      have hGM : GM f_41 G u := hGM.lb en_46 (fk_mi fk_48 31 (by decide) (by decide)) (fk_mi fk_48 13 (by decide) (by decide)) (by omega)
      have br_44 := wf_free r_44
      refine lv_goto (tgt := 26) G0.1 G0.2.1 dX12_fault_21 (by decide) ?_
      exact py_iret G0 hr rfl hlk hw ⟨hGM, hWF, hKP, hFK⟩ dX12_fault_26
  · skip
    have tc_1 := ti_eq c_1
    refine lv_aload_n G0.1 G0.2.1 dX12_fault_4 rfl (lv_at hl 0 rfl) ?_
    obtain ⟨v_57, v_58, v_59, v_60, v_61, v_62, v_63, v_64, v_65, v_66, v_67, v_68, y_69, v_70, v_71, v_72, v_73, v_74, y_75, v_76, y_77, v_78, hr_91, b_79, b_80, b_81, b_82, b_83, b_84, b_85, b_86, b_87, b_88, b_89, b_90⟩ := wg_12 hWF Tu
    have tq_92 := mi_row hr_91 13 rfl
    have tq_93 := mi_row hr_91 31 rfl
    refine py_calli hw (va_runV (As := []) (rest := []) G0 (c_X12_readValley l E G L f s.heap.size u hG hWF Tu) (cwV 0 G0.2.2.2.2 g_X12_fault_X12_readValley_281 rfl rfl rfl (by decide +kernel) ⟨(Nat.le_of_ble_eq_true rfl), (Nat.le_of_ble_eq_true rfl)⟩) (py_preV hw (C := RX12) (T := TX12) (N := 54) rfl hr_91) rfl rfl hl.1 rfl (lv_room (Nat.le_of_ble_eq_true rfl)) dX12_fault_5 ⟨(Nat.le_of_ble_eq_true rfl), (Nat.le_of_ble_eq_true rfl)⟩) (fun r_98 L_94 f_95 H_96 locs hp_97 hw => ?_)
    obtain ⟨en_99, hWF, kp_100, fk_101⟩ := hp_97
    have hGM := hGM.kp hG Tu kp_100 fk_101 (LK.of (by decide)) (by decide)
    have hFK := hFK.trans fk_101 (by decide)
    have hKP := hKP.trans kp_100 (by decide) (by decide)
    obtain ⟨v_102, v_103, v_104, v_105, hr_106, b_107, b_108⟩ := fk_3_4_19_20 hWF Tu fk_101 hr_91
    have tq_109 := mi_row hr_106 13 rfl
    have tq_110 := mi_row hr_106 31 rfl
    have br_98 := wf_free r_98
    refine lv_goto (tgt := 26) G0.1 G0.2.1 dX12_fault_8 (by decide) ?_
    exact py_iret G0 hr rfl hlk hw ⟨hGM, hWF, hKP, hFK⟩ dX12_fault_26

set_option maxHeartbeats 4000000 in
set_option maxRecDepth 100000 in
theorem c_X12_lawG (l : Launch) (E : py_E) (G : wf_G) (L : List Nat) (f : py_F) (sz : Nat) (u : Nat) (a : Int32) (hG : GT G) (hWF : WF E G L f) (Tu : G.1 u = 13) (hq0 : GM f G u) : Met l yX12_law w_X12_law ({ frames := 1, cells := 0, slots := 0, locals := 22 }) (py_Pc E [.ref u, .int a] L f sz) (py_Qi E L f sz (fun r L1 f1 => (0 ≤ r.toInt ∧ r.toInt ≤ 1) ∧ (GM f1 G u) ∧ WF E G L1 f1 ∧ KP G [13] false f f1 ∧ FK [31] f f1 u)) 0 0 (va_A (va_pl L f) sz) := by
  refine Met.ofW (cc := cX12_law) (maxL := 2) (ret := (some .boolean)) (by decide) rfl ?_
  intro p e s m args below meth c s₁ B hml hv
  obtain ⟨rfl, rfl, hw⟩ := py_start hv
  have G0 : CallFix p m c cX12_law 2 s _ w_X12_law RX12 := ⟨B.exec, B.bytes, hml, findClass_of_methodNamed B.named, atoms_spec (ws := w_X12_law) B.pre⟩
  have hr := B.returns
  have hlk := B.notSynchronized
  have kcm1 : (-1 : Int32).toInt = -1 := rfl
  have kc0 : (0 : Int32).toInt = 0 := rfl
  have kc1 : (1 : Int32).toInt = 1 := rfl
  have hl := lv_entry ([.ref u, .int a]) (n := 2) (Nat.le_of_ble_eq_true rfl)
  rw [lg_entry_eq]
  generalize (lg_sl ([.ref u, .int a]) ++ List.replicate (2 - (lg_sl ([.ref u, .int a])).length) Slot.unset).toArray = ls at hl ⊢
  have hl : lv_has ls 2 [(0, .ref u), (1, .int a)] := hl
  have hFK : FK [31] f f u := FK.refl
  have hKP : KP G [13] false f f := KP.refl
  have hGM := hq0
  refine lv_iload_n G0.1 G0.2.1 dX12_law_0 rfl (lv_at hl 1 rfl) ?_
  refine lv_iconst (v := (-1)) G0.1 G0.2.1 dX12_law_1 (by decide) ?_
  refine lv_aload_n G0.1 G0.2.1 dX12_law_2 rfl (lv_at hl 0 rfl) ?_
  obtain ⟨v_1, v_2, v_3, v_4, v_5, v_6, v_7, v_8, v_9, v_10, v_11, v_12, y_13, v_14, v_15, v_16, v_17, v_18, y_19, v_20, y_21, v_22, hr_35, b_23, b_24, b_25, b_26, b_27, b_28, b_29, b_30, b_31, b_32, b_33, b_34⟩ := wg_12 hWF Tu
  have tq_36 := mi_row hr_35 13 rfl
  have tq_37 := mi_row hr_35 31 rfl
  refine py_get (C := RX12) (T := TX12) (N := 54) (k := 13) (v := .int v_6) G0 hw in_X12_law_X12 rfl hr_35 (by decide) (by decide +kernel) rfl dX12_law_3 ?_
  refine lv_iconst (v := 1) G0.1 G0.2.1 dX12_law_6 (by decide) ?_
  refine lv_isub G0.1 G0.2.1 dX12_law_7 ?_
  refine lv_topi (fun x_38 ex_38 => ?_)
  first | have tx_38 := ti_sub ex_38 (by omega -splitDisjunctions) (by omega -splitDisjunctions) | skip
  refine py_calli hw (va_runS (As := [.int a, .int (-1), .int x_38]) (rest := []) G0 (c_X12_in l E G L f s.heap.size a (-1) x_38 hG hWF) (va_cwS 3 G0.2.2.2.2 g_X12_law_X12_in_232 rfl rfl rfl (by decide +kernel) ⟨(Nat.le_of_ble_eq_true rfl), (Nat.le_of_ble_eq_true rfl)⟩) (py_preS hw) rfl rfl hl.1 rfl (lv_room (Nat.le_of_ble_eq_true rfl)) dX12_law_8 ⟨(Nat.le_of_ble_eq_true rfl), (Nat.le_of_ble_eq_true rfl)⟩) (fun r_43 L_39 f_40 H_41 locs hp_42 hw => ?_)
  obtain ⟨b_46, en_44, en_45, rfl, rfl⟩ := hp_42
  have en_44 : r_43.toInt ≠ 0 → ((-1) : Int) ≤ a.toInt ∧ a.toInt ≤ x_38.toInt := en_44
  have en_45 : r_43.toInt = 0 → a.toInt < ((-1) : Int) ∨ x_38.toInt < a.toInt := en_45
  refine lv_if_ne (tgt := 16) G0.1 G0.2.1 dX12_law_11 (by decide) (fun c_47 => ?_) (fun c_47 => ?_)
  · skip
    have tc_47 := ti_ne c_47
    replace en_44 := en_44 (by omega)
    clear en_45
    refine lv_aload_n G0.1 G0.2.1 dX12_law_16 rfl (lv_at hl 0 rfl) ?_
    refine lv_iload_n G0.1 G0.2.1 dX12_law_17 rfl (lv_at hl 1 rfl) ?_
    refine py_put (C := RX12) (T := TX12) (N := 54) (k := 31) (v := .int a) (fs' := [.int v_1, .ref (G.2 u 1), .int v_2, .int v_3, .int v_4, .int v_5, .ref (G.2 u 6), .ref (G.2 u 7), .ref (G.2 u 8), .ref (G.2 u 9), .ref (G.2 u 10), .ref (G.2 u 11), .ref (G.2 u 12), .int v_6, .int v_7, .ref (G.2 u 15), .ref (G.2 u 16), .ref (G.2 u 17), .ref (G.2 u 18), .int v_8, .int v_9, .ref (G.2 u 21), .ref (G.2 u 22), .ref (G.2 u 23), .int v_10, .int v_11, .ref (G.2 u 26), .ref (G.2 u 27), .ref (G.2 u 28), .int v_12, .long y_13, .int a, .int v_15, .int v_16, .int v_17, .ref (G.2 u 35), .ref (G.2 u 36), .ref (G.2 u 37), .ref (G.2 u 38), .ref (G.2 u 39), .ref (G.2 u 40), .ref (G.2 u 41), .ref (G.2 u 42), .int v_18, .ref (G.2 u 44), .ref (G.2 u 45), .ref (G.2 u 46), .ref (G.2 u 47), .long y_19, .ref (G.2 u 49), .ref (G.2 u 50), .int v_20, .long y_21, .int v_22]) (ty0 := tyX12) G0 hw tyX12_ok nmX12 in_X12_law_X12 rfl hr_35 (by decide) (by decide +kernel) rfl rfl rfl rfl (Nat.le_of_ble_eq_true rfl) rfl dX12_law_18 (fun f_48 H_49 locs h_50 x_51 hw => ?_)
    have hGM := hGM.held hG hWF Tu x_51 (by have z1 := mi_row hr_35 13 rfl; have z2 := mi_row h_50 13 rfl; omega) (by have z1 := mi_row h_50 31 rfl; have z2 := mi_row h_50 13 rfl; omega)
    have hFK := hFK.put hr_35 h_50 31 (by decide) rfl
    have hKP := hKP.upd hWF x_51 Tu (Or.inl (by decide))
    have hWF := wf_upd hWF h_50 x_51 (by rw [Tu]; exact ⟨v_1, v_2, v_3, v_4, v_5, v_6, v_7, v_8, v_9, v_10, v_11, v_12, y_13, a, v_15, v_16, v_17, v_18, y_19, v_20, y_21, v_22, rfl, ⟨by omega, by omega⟩, ⟨by omega, by omega⟩, ⟨by omega, by omega⟩, ⟨by omega, by omega⟩, ⟨by omega, by omega⟩, ⟨by omega, by omega⟩, ⟨by omega, by omega⟩, ⟨by omega, by omega⟩, ⟨by omega, by omega⟩, ⟨by omega, by omega⟩, ⟨by omega, by omega⟩, ⟨by omega, by omega⟩⟩)
    have tq_52 := mi_row h_50 13 rfl
    have tq_53 := mi_row h_50 31 rfl
    refine lv_iconst (v := 1) G0.1 G0.2.1 dX12_law_21 (by decide) ?_
    exact py_iret G0 hr rfl hlk hw ⟨⟨by omega, by omega⟩, hGM, hWF, hKP, hFK⟩ dX12_law_22
  · skip
    have tc_47 := ti_eq c_47
    clear en_44
    replace en_45 := en_45 (by omega)
    refine lv_iconst (v := 0) G0.1 G0.2.1 dX12_law_14 (by decide) ?_
    exact py_iret G0 hr rfl hlk hw ⟨⟨by omega, by omega⟩, hGM, hWF, hKP, hFK⟩ dX12_law_15
