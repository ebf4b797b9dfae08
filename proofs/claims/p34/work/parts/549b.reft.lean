theorem dX12_fault_0 : decode cX12_fault 0 = .ok (.iload_n 1, 1) := by decide +kernel
theorem dX12_fault_1 : decode cX12_fault 1 = .ok (.ifCond .ne 10, 3) := by decide +kernel
theorem dX12_fault_4 : decode cX12_fault 4 = .ok (.aload_n 0, 1) := by decide +kernel
theorem dX12_fault_5 : decode cX12_fault 5 = .ok (.invokevirtual 281, 3) := by decide +kernel
theorem dX12_fault_8 : decode cX12_fault 8 = .ok (.goto 18, 3) := by decide +kernel
theorem dX12_fault_11 : decode cX12_fault 11 = .ok (.iload_n 1, 1) := by decide +kernel
theorem dX12_fault_12 : decode cX12_fault 12 = .ok (.iconst 1, 1) := by decide +kernel
theorem dX12_fault_13 : decode cX12_fault 13 = .ok (.if_icmp .ne 11, 3) := by decide +kernel
theorem dX12_fault_16 : decode cX12_fault 16 = .ok (.aload_n 0, 1) := by decide +kernel
theorem dX12_fault_17 : decode cX12_fault 17 = .ok (.iconst 4, 1) := by decide +kernel
theorem dX12_fault_18 : decode cX12_fault 18 = .ok (.invokevirtual 284, 3) := by decide +kernel
theorem dX12_fault_21 : decode cX12_fault 21 = .ok (.goto 5, 3) := by decide +kernel
theorem dX12_fault_24 : decode cX12_fault 24 = .ok (.bipush (-2), 2) := by decide +kernel
theorem dX12_fault_26 : decode cX12_fault 26 = .ok (.ireturn, 1) := by decide +kernel
theorem dX12_law_0 : decode cX12_law 0 = .ok (.iload_n 1, 1) := by decide +kernel
theorem dX12_law_1 : decode cX12_law 1 = .ok (.iconst (-1), 1) := by decide +kernel
theorem dX12_law_2 : decode cX12_law 2 = .ok (.aload_n 0, 1) := by decide +kernel
theorem dX12_law_3 : decode cX12_law 3 = .ok (.getfield 322, 3) := by decide +kernel
theorem dX12_law_6 : decode cX12_law 6 = .ok (.iconst 1, 1) := by decide +kernel
theorem dX12_law_7 : decode cX12_law 7 = .ok (.isub, 1) := by decide +kernel
theorem dX12_law_8 : decode cX12_law 8 = .ok (.invokestatic 232, 3) := by decide +kernel
theorem dX12_law_11 : decode cX12_law 11 = .ok (.ifCond .ne 5, 3) := by decide +kernel
theorem dX12_law_14 : decode cX12_law 14 = .ok (.iconst 0, 1) := by decide +kernel
theorem dX12_law_15 : decode cX12_law 15 = .ok (.ireturn, 1) := by decide +kernel
theorem dX12_law_16 : decode cX12_law 16 = .ok (.aload_n 0, 1) := by decide +kernel
theorem dX12_law_17 : decode cX12_law 17 = .ok (.iload_n 1, 1) := by decide +kernel
theorem dX12_law_18 : decode cX12_law 18 = .ok (.putfield 64, 3) := by decide +kernel
theorem dX12_law_21 : decode cX12_law 21 = .ok (.iconst 1, 1) := by decide +kernel
theorem dX12_law_22 : decode cX12_law 22 = .ok (.ireturn, 1) := by decide +kernel
theorem dX12_text_0 : decode cX12_text 0 = .ok (.iload_n 1, 1) := by decide +kernel
theorem dX12_text_1 : decode cX12_text 1 = .ok (.ifCond .ne 21, 3) := by decide +kernel
theorem dX12_text_4 : decode cX12_text 4 = .ok (.aload_n 0, 1) := by decide +kernel
theorem dX12_text_5 : decode cX12_text 5 = .ok (.invokevirtual 281, 3) := by decide +kernel
theorem dX12_text_8 : decode cX12_text 8 = .ok (.iconst (-1), 1) := by decide +kernel
theorem dX12_text_9 : decode cX12_text 9 = .ok (.if_icmp .ne 13, 3) := by decide +kernel
theorem dX12_text_12 : decode cX12_text 12 = .ok (.aload_n 0, 1) := by decide +kernel
theorem dX12_text_13 : decode cX12_text 13 = .ok (.iconst 0, 1) := by decide +kernel
theorem dX12_text_14 : decode cX12_text 14 = .ok (.putfield 124, 3) := by decide +kernel
theorem dX12_text_17 : decode cX12_text 17 = .ok (.aload_n 0, 1) := by decide +kernel
theorem dX12_text_18 : decode cX12_text 18 = .ok (.invokevirtual 319, 3) := by decide +kernel
theorem dX12_text_21 : decode cX12_text 21 = .ok (.ireturn, 1) := by decide +kernel
theorem dX12_text_22 : decode cX12_text 22 = .ok (.iload_n 1, 1) := by decide +kernel
theorem dX12_text_23 : decode cX12_text 23 = .ok (.iconst 1, 1) := by decide +kernel
theorem dX12_text_24 : decode cX12_text 24 = .ok (.if_icmp .ne 45, 3) := by decide +kernel
theorem dX12_text_27 : decode cX12_text 27 = .ok (.aload_n 0, 1) := by decide +kernel
theorem dX12_text_28 : decode cX12_text 28 = .ok (.getfield 322, 3) := by decide +kernel
theorem dX12_text_31 : decode cX12_text 31 = .ok (.iconst 4, 1) := by decide +kernel
theorem dX12_text_32 : decode cX12_text 32 = .ok (.if_icmp .ge 37, 3) := by decide +kernel
theorem dX12_text_35 : decode cX12_text 35 = .ok (.aload_n 0, 1) := by decide +kernel
theorem dX12_text_36 : decode cX12_text 36 = .ok (.aload_n 0, 1) := by decide +kernel
theorem dX12_text_37 : decode cX12_text 37 = .ok (.getfield 322, 3) := by decide +kernel
theorem dX12_text_40 : decode cX12_text 40 = .ok (.invokevirtual 284, 3) := by decide +kernel
theorem dX12_text_43 : decode cX12_text 43 = .ok (.iconst (-1), 1) := by decide +kernel
theorem dX12_text_44 : decode cX12_text 44 = .ok (.if_icmp .ne 25, 3) := by decide +kernel
theorem dX12_text_47 : decode cX12_text 47 = .ok (.aload_n 0, 1) := by decide +kernel
theorem dX12_text_48 : decode cX12_text 48 = .ok (.iconst 0, 1) := by decide +kernel
theorem dX12_text_49 : decode cX12_text 49 = .ok (.putfield 124, 3) := by decide +kernel
theorem dX12_text_52 : decode cX12_text 52 = .ok (.aload_n 0, 1) := by decide +kernel
theorem dX12_text_53 : decode cX12_text 53 = .ok (.dup, 1) := by decide +kernel
theorem dX12_text_54 : decode cX12_text 54 = .ok (.getfield 322, 3) := by decide +kernel
theorem dX12_text_57 : decode cX12_text 57 = .ok (.iconst 1, 1) := by decide +kernel
theorem dX12_text_58 : decode cX12_text 58 = .ok (.iadd, 1) := by decide +kernel
theorem dX12_text_59 : decode cX12_text 59 = .ok (.putfield 322, 3) := by decide +kernel
theorem dX12_text_62 : decode cX12_text 62 = .ok (.aload_n 0, 1) := by decide +kernel
theorem dX12_text_63 : decode cX12_text 63 = .ok (.getfield 322, 3) := by decide +kernel
theorem dX12_text_66 : decode cX12_text 66 = .ok (.iconst 1, 1) := by decide +kernel
theorem dX12_text_67 : decode cX12_text 67 = .ok (.isub, 1) := by decide +kernel
theorem dX12_text_68 : decode cX12_text 68 = .ok (.ireturn, 1) := by decide +kernel
theorem dX12_text_69 : decode cX12_text 69 = .ok (.iconst (-1), 1) := by decide +kernel
theorem dX12_text_70 : decode cX12_text 70 = .ok (.ireturn, 1) := by decide +kernel
def w_X12_text : List Cond := .code yX12_text cX12_text 2 (some .int) :: ([Cond.fieldLink RX12 322 "HeadYearModel" "laws" "I", Cond.methodLink RX12 284 yX12_readLaw, Cond.instanceMethod yX12_readLaw, Cond.selects RX12 yX12_readLaw yX12_readLaw, Cond.initialized RX12, Cond.fieldLink RX12 124 "HeadYearModel" "size" "I", Cond.methodLink RX12 281 yX12_readValley, Cond.instanceMethod yX12_readValley, Cond.selects RX12 yX12_readValley yX12_readValley, Cond.methodLink RX12 319 yX12_takeValley, Cond.instanceMethod yX12_takeValley, Cond.selects RX12 yX12_takeValley yX12_takeValley] ++ (u_ws RX12 TX12 54 ++ (w_X12_readLaw ++ (w_X12_readValley ++ (w_X12_takeValley ++ ([]))))))
theorem in_X12_text_X12 : ∀ w ∈ u_ws RX12 TX12 54, w ∈ w_X12_text := fun _ h => List.mem_cons_of_mem _ (List.mem_append_right _ (List.mem_append_left _ h))
theorem gg_X12_text_X12_readLaw : GoodIn w_X12_text w_X12_readLaw := goodIn_sub (fun _ h => List.mem_cons_of_mem _ (List.mem_append_right _ (List.mem_append_right _ (List.mem_append_left _ h)))) (by decide +kernel)
theorem gg_X12_text_X12_readValley : GoodIn w_X12_text w_X12_readValley := goodIn_sub (fun _ h => List.mem_cons_of_mem _ (List.mem_append_right _ (List.mem_append_right _ (List.mem_append_right _ (List.mem_append_left _ h))))) (by decide +kernel)
theorem gg_X12_text_X12_takeValley : GoodIn w_X12_text w_X12_takeValley := goodIn_sub (fun _ h => List.mem_cons_of_mem _ (List.mem_append_right _ (List.mem_append_right _ (List.mem_append_right _ (List.mem_append_right _ (List.mem_append_left _ h)))))) (by decide +kernel)
theorem g_X12_text_X12_readLaw_284 : GoodIn w_X12_text (wsV RX12 284 RX12 yX12_readLaw w_X12_readLaw) := goodIn_app (goodIn_of _ (by decide +kernel)) gg_X12_text_X12_readLaw
theorem g_X12_text_X12_readValley_281 : GoodIn w_X12_text (wsV RX12 281 RX12 yX12_readValley w_X12_readValley) := goodIn_app (goodIn_of _ (by decide +kernel)) gg_X12_text_X12_readValley
theorem g_X12_text_X12_takeValley_319 : GoodIn w_X12_text (wsV RX12 319 RX12 yX12_takeValley w_X12_takeValley) := goodIn_app (goodIn_of _ (by decide +kernel)) gg_X12_text_X12_takeValley
theorem fk_24_25_29_43_53 {E : py_E} {G : wf_G} {L L1 : List Nat} {f f1 : py_F} {m : Nat} (hWF : WF E G L1 f1) (Tm : G.1 m = 13) (h : FK [24, 25, 29, 43, 53] f f1 m) {v0 : Int32} {v2 : Int32} {v3 : Int32} {v4 : Int32} {v5 : Int32} {v13 : Int32} {v14 : Int32} {v19 : Int32} {v20 : Int32} {v24 : Int32} {v25 : Int32} {v29 : Int32} {v30 : Int64} {v31 : Int32} {v32 : Int32} {v33 : Int32} {v34 : Int32} {v43 : Int32} {v48 : Int64} {v51 : Int32} {v52 : Int64} {v53 : Int32} (hr : py_at L f m (.inr (12, [.int v0, .ref (G.2 m 1), .int v2, .int v3, .int v4, .int v5, .ref (G.2 m 6), .ref (G.2 m 7), .ref (G.2 m 8), .ref (G.2 m 9), .ref (G.2 m 10), .ref (G.2 m 11), .ref (G.2 m 12), .int v13, .int v14, .ref (G.2 m 15), .ref (G.2 m 16), .ref (G.2 m 17), .ref (G.2 m 18), .int v19, .int v20, .ref (G.2 m 21), .ref (G.2 m 22), .ref (G.2 m 23), .int v24, .int v25, .ref (G.2 m 26), .ref (G.2 m 27), .ref (G.2 m 28), .int v29, .long v30, .int v31, .int v32, .int v33, .int v34, .ref (G.2 m 35), .ref (G.2 m 36), .ref (G.2 m 37), .ref (G.2 m 38), .ref (G.2 m 39), .ref (G.2 m 40), .ref (G.2 m 41), .ref (G.2 m 42), .int v43, .ref (G.2 m 44), .ref (G.2 m 45), .ref (G.2 m 46), .ref (G.2 m 47), .long v48, .ref (G.2 m 49), .ref (G.2 m 50), .int v51, .long v52, .int v53]))) : ∃ (w24 : Int32) (w25 : Int32) (w29 : Int32) (w43 : Int32) (w53 : Int32), py_at L1 f1 m (.inr (12, [.int v0, .ref (G.2 m 1), .int v2, .int v3, .int v4, .int v5, .ref (G.2 m 6), .ref (G.2 m 7), .ref (G.2 m 8), .ref (G.2 m 9), .ref (G.2 m 10), .ref (G.2 m 11), .ref (G.2 m 12), .int v13, .int v14, .ref (G.2 m 15), .ref (G.2 m 16), .ref (G.2 m 17), .ref (G.2 m 18), .int v19, .int v20, .ref (G.2 m 21), .ref (G.2 m 22), .ref (G.2 m 23), .int w24, .int w25, .ref (G.2 m 26), .ref (G.2 m 27), .ref (G.2 m 28), .int w29, .long v30, .int v31, .int v32, .int v33, .int v34, .ref (G.2 m 35), .ref (G.2 m 36), .ref (G.2 m 37), .ref (G.2 m 38), .ref (G.2 m 39), .ref (G.2 m 40), .ref (G.2 m 41), .ref (G.2 m 42), .int w43, .ref (G.2 m 44), .ref (G.2 m 45), .ref (G.2 m 46), .ref (G.2 m 47), .long v48, .ref (G.2 m 49), .ref (G.2 m 50), .int v51, .long v52, .int w53])) ∧ (0 ≤ w24.toInt ∧ w24.toInt ≤ 8) ∧ (0 ≤ w25.toInt ∧ w25.toInt ≤ 10) ∧ (0 ≤ w29.toInt ∧ w29.toInt ≤ 60) ∧ (0 ≤ w43.toInt ∧ w43.toInt ≤ 40) ∧ (0 ≤ w53.toInt ∧ w53.toInt ≤ 1) := by
  obtain ⟨w0, w2, w3, w4, w5, w13, w14, w19, w20, w24, w25, w29, w30, w31, w32, w33, w34, w43, w48, w51, w52, w53, hr1, b2, b13, b14, b19, b20, b24, b25, b29, b31, b43, b51, b53⟩ := wg_12 hWF Tm
  have e0 : w0 = v0 := Value.int.inj (Option.some.inj (show some (Value.int w0) = some (Value.int v0) from fk_i h hr hr1 0 (by decide) (by decide)))
  subst e0
  have e2 : w2 = v2 := Value.int.inj (Option.some.inj (show some (Value.int w2) = some (Value.int v2) from fk_i h hr hr1 2 (by decide) (by decide)))
  subst e2
  have e3 : w3 = v3 := Value.int.inj (Option.some.inj (show some (Value.int w3) = some (Value.int v3) from fk_i h hr hr1 3 (by decide) (by decide)))
  subst e3
  have e4 : w4 = v4 := Value.int.inj (Option.some.inj (show some (Value.int w4) = some (Value.int v4) from fk_i h hr hr1 4 (by decide) (by decide)))
  subst e4
  have e5 : w5 = v5 := Value.int.inj (Option.some.inj (show some (Value.int w5) = some (Value.int v5) from fk_i h hr hr1 5 (by decide) (by decide)))
  subst e5
  have e13 : w13 = v13 := Value.int.inj (Option.some.inj (show some (Value.int w13) = some (Value.int v13) from fk_i h hr hr1 13 (by decide) (by decide)))
  subst e13
  have e14 : w14 = v14 := Value.int.inj (Option.some.inj (show some (Value.int w14) = some (Value.int v14) from fk_i h hr hr1 14 (by decide) (by decide)))
  subst e14
  have e19 : w19 = v19 := Value.int.inj (Option.some.inj (show some (Value.int w19) = some (Value.int v19) from fk_i h hr hr1 19 (by decide) (by decide)))
  subst e19
  have e20 : w20 = v20 := Value.int.inj (Option.some.inj (show some (Value.int w20) = some (Value.int v20) from fk_i h hr hr1 20 (by decide) (by decide)))
  subst e20
  have e30 : w30 = v30 := Value.long.inj (Option.some.inj (show some (Value.long w30) = some (Value.long v30) from fk_i h hr hr1 30 (by decide) (by decide)))
  subst e30
  have e31 : w31 = v31 := Value.int.inj (Option.some.inj (show some (Value.int w31) = some (Value.int v31) from fk_i h hr hr1 31 (by decide) (by decide)))
  subst e31
  have e32 : w32 = v32 := Value.int.inj (Option.some.inj (show some (Value.int w32) = some (Value.int v32) from fk_i h hr hr1 32 (by decide) (by decide)))
  subst e32
  have e33 : w33 = v33 := Value.int.inj (Option.some.inj (show some (Value.int w33) = some (Value.int v33) from fk_i h hr hr1 33 (by decide) (by decide)))
  subst e33
  have e34 : w34 = v34 := Value.int.inj (Option.some.inj (show some (Value.int w34) = some (Value.int v34) from fk_i h hr hr1 34 (by decide) (by decide)))
  subst e34
  have e48 : w48 = v48 := Value.long.inj (Option.some.inj (show some (Value.long w48) = some (Value.long v48) from fk_i h hr hr1 48 (by decide) (by decide)))
  subst e48
  have e51 : w51 = v51 := Value.int.inj (Option.some.inj (show some (Value.int w51) = some (Value.int v51) from fk_i h hr hr1 51 (by decide) (by decide)))
  subst e51
  have e52 : w52 = v52 := Value.long.inj (Option.some.inj (show some (Value.long w52) = some (Value.long v52) from fk_i h hr hr1 52 (by decide) (by decide)))
  subst e52
  exact ⟨w24, w25, w29, w43, w53, hr1, b24, b25, b29, b43, b53⟩
set_option maxHeartbeats 4000000 in
set_option maxRecDepth 100000 in
theorem c_X12_text (l : Launch) (E : py_E) (G : wf_G) (L : List Nat) (f : py_F) (sz : Nat) (u : Nat) (a : Int32) (gb : rs_B) (nb : Int) (hG : GT G) (hWF : WF E G L f) (Tu : G.1 u = 13) (hp0 : mi f u 2 = nb ∧ 0 ≤ nb ∧ nb ≤ 160) (hq0 : GM f G u) (hq1 : AG f (G.2 u 1) gb nb) (hq2 : rs_nn gb nb) : Met l yX12_text w_X12_text ({ frames := 69, cells := 0, slots := 0, locals := 3723 }) (py_Pc E [.ref u, .int a] L f sz) (py_Qi E L f sz (fun r L1 f1 => (GM f1 G u) ∧ (TX gb nb (mi f u 13) a.toInt r.toInt (mi f1 u 2) (mi f1 u 13)) ∧ ((a.toInt = 0 ∧ r.toInt ≠ -1 ∧ mi f1 u 29 = 0 ∧ mi f1 u 53 = 0 ∧ 1 ≤ mi f1 u 25) ∨ ((a.toInt ≠ 0 ∨ r.toInt = -1) ∧ mi f1 u 29 = mi f u 29 ∧ mi f1 u 53 = mi f u 53 ∧ mi f1 u 25 = mi f u 25)) ∧ WF E G L1 f1 ∧ KP G [41, 42, 43, 44, 45, 46, 47, 50, 51, 52, 53, 54, 55, 13] false f f1 ∧ FK [2, 3, 4, 5, 13, 14, 19, 20, 24, 25, 29, 43, 53] f f1 u)) 0 0 (va_A (va_pl L f) sz) := by
  refine Met.ofW (cc := cX12_text) (maxL := 2) (ret := (some .int)) (by decide) rfl ?_
  intro p e s m args below meth c s₁ B hml hv
  obtain ⟨rfl, rfl, hw⟩ := py_start hv
  have G0 : CallFix p m c cX12_text 2 s _ w_X12_text RX12 := ⟨B.exec, B.bytes, hml, findClass_of_methodNamed B.named, atoms_spec (ws := w_X12_text) B.pre⟩
  have hr := B.returns
  have hlk := B.notSynchronized
  have kcm1 : (-1 : Int32).toInt = -1 := rfl
  have kc0 : (0 : Int32).toInt = 0 := rfl
  have kc1 : (1 : Int32).toInt = 1 := rfl
  have kc4 : (4 : Int32).toInt = 4 := rfl
  have hl := lv_entry ([.ref u, .int a]) (n := 2) (Nat.le_of_ble_eq_true rfl)
  rw [lg_entry_eq]
  generalize (lg_sl ([.ref u, .int a]) ++ List.replicate (2 - (lg_sl ([.ref u, .int a])).length) Slot.unset).toArray = ls at hl ⊢
  have hl : lv_has ls 2 [(0, .ref u), (1, .int a)] := hl
  have hFK : FK [2, 3, 4, 5, 13, 14, 19, 20, 24, 25, 29, 43, 53] f f u := FK.refl
  have hKP : KP G [41, 42, 43, 44, 45, 46, 47, 50, 51, 52, 53, 54, 55, 13] false f f := KP.refl
  have hGM := hq0
  have hMB := hq1
  have hNN := hq2
  refine lv_iload_n G0.1 G0.2.1 dX12_text_0 rfl (lv_at hl 1 rfl) ?_
  refine lv_if_ne (tgt := 22) G0.1 G0.2.1 dX12_text_1 (by decide) (fun c_1 => ?_) (fun c_1 => ?_)
  · skip
    have tc_1 := ti_ne c_1
    refine lv_iload_n G0.1 G0.2.1 dX12_text_22 rfl (lv_at hl 1 rfl) ?_
    refine lv_iconst (v := 1) G0.1 G0.2.1 dX12_text_23 (by decide) ?_
    refine lv_icmp_ne (tgt := 69) G0.1 G0.2.1 dX12_text_24 (by decide) (fun c_2 => ?_) (fun c_2 => ?_)
    · skip
      have tc_2 := ti_ne c_2
      refine lv_iconst (v := (-1)) G0.1 G0.2.1 dX12_text_69 (by decide) ?_
      exact py_iret G0 hr rfl hlk hw ⟨hGM, (by first | exact Or.inr (Or.inr (by omega)) | exact Or.inr (Or.inl ⟨by omega, by omega⟩)), (by first | omega | (intro q; omega)), hWF, hKP, hFK⟩ dX12_text_70
    · skip
      have tc_2 := ti_eq c_2
      refine lv_aload_n G0.1 G0.2.1 dX12_text_27 rfl (lv_at hl 0 rfl) ?_
      obtain ⟨v_3, v_4, v_5, v_6, v_7, v_8, v_9, v_10, v_11, v_12, v_13, v_14, y_15, v_16, v_17, v_18, v_19, v_20, y_21, v_22, y_23, v_24, hr_37, b_25, b_26, b_27, b_28, b_29, b_30, b_31, b_32, b_33, b_34, b_35, b_36⟩ := wg_12 hWF Tu
      have tq_38 := mi_row hr_37 2 rfl
      have tq_39 := mi_row hr_37 4 rfl
      have bv_6 := wf_free v_6
      have tq_40 := mi_row hr_37 13 rfl
      have tq_41 := mi_row hr_37 20 rfl
      have tq_42 := mi_row hr_37 25 rfl
      have tq_43 := mi_row hr_37 29 rfl
      have tq_44 := mi_row hr_37 31 rfl
      have tq_45 := mi_row hr_37 53 rfl
      refine py_get (C := RX12) (T := TX12) (N := 54) (k := 13) (v := .int v_8) G0 hw in_X12_text_X12 rfl hr_37 (by decide) (by decide +kernel) rfl dX12_text_28 ?_
      refine lv_iconst (v := 4) G0.1 G0.2.1 dX12_text_31 (by decide) ?_
      refine lv_icmp_ge (tgt := 69) G0.1 G0.2.1 dX12_text_32 (by decide) (fun c_46 => ?_) (fun c_46 => ?_)
      · skip
        have tc_46 := ti_le c_46
        refine lv_iconst (v := (-1)) G0.1 G0.2.1 dX12_text_69 (by decide) ?_
        exact py_iret G0 hr rfl hlk hw ⟨hGM, (by first | exact Or.inr (Or.inr (by omega)) | exact Or.inr (Or.inl ⟨by omega, by omega⟩)), (by first | omega | (intro q; omega)), hWF, hKP, hFK⟩ dX12_text_70
      · skip
        have tc_46 := ti_nle c_46
        refine lv_aload_n G0.1 G0.2.1 dX12_text_35 rfl (lv_at hl 0 rfl) ?_
        refine lv_aload_n G0.1 G0.2.1 dX12_text_36 rfl (lv_at hl 0 rfl) ?_
        refine py_get (C := RX12) (T := TX12) (N := 54) (k := 13) (v := .int v_8) G0 hw in_X12_text_X12 rfl hr_37 (by decide) (by decide +kernel) rfl dX12_text_37 ?_
        refine py_calli hw (va_runV (As := [.int v_8]) (rest := []) G0 (c_X12_readLaw l E G L f s.heap.size u v_8 gb nb hG hWF Tu ⟨by omega, by omega⟩ (show mi f u 2 = nb by omega) hMB hNN) (cwV 1 G0.2.2.2.2 g_X12_text_X12_readLaw_284 rfl rfl rfl (by decide +kernel) ⟨(Nat.le_of_ble_eq_true rfl), (Nat.le_of_ble_eq_true rfl)⟩) (py_preV hw (C := RX12) (T := TX12) (N := 54) rfl hr_37) rfl rfl hl.1 rfl (lv_room (Nat.le_of_ble_eq_true rfl)) dX12_text_40 ⟨(Nat.le_of_ble_eq_true rfl), (Nat.le_of_ble_eq_true rfl)⟩) (fun r_51 L_47 f_48 H_49 locs hp_50 hw => ?_)
        obtain ⟨en_52, en_53, en_54, hWF, kp_55, fk_56⟩ := hp_50
        have hMB := hMB.kp (kp_f kp_55 (wt12_1 hG Tu) (by decide) (by decide) (fun _ => by decide))
        have hFK := hFK.trans fk_56 (by decide)
        have hKP := hKP.trans kp_55 (by decide) (by decide)
        obtain ⟨v_57, v_58, v_59, v_60, hr_61, b_62⟩ := fk_3_4_5_14 hWF Tu fk_56 hr_37
        have tq_63 := mi_row hr_61 2 rfl
        have tq_64 := mi_row hr_61 4 rfl
        have bv_58 := wf_free v_58
        have tq_65 := mi_row hr_61 13 rfl
        have tq_66 := mi_row hr_61 20 rfl
        have tq_67 := mi_row hr_61 25 rfl
        have tq_68 := mi_row hr_61 29 rfl
        have tq_69 := mi_row hr_61 31 rfl
        have tq_70 := mi_row hr_61 53 rfl
        have hGM : GM f_48 G u := hGM.lb en_53 (fk_mi fk_56 31 (by decide) (by decide)) (fk_mi fk_56 13 (by decide) (by decide)) (by omega)
        have hLVn : r_51.toInt = -1 → LV f_48 G u v_8.toInt := en_52
        have br_51 := wf_free r_51
        refine lv_iconst (v := (-1)) G0.1 G0.2.1 dX12_text_43 (by decide) ?_
        refine lv_icmp_ne (tgt := 69) G0.1 G0.2.1 dX12_text_44 (by decide) (fun c_71 => ?_) (fun c_71 => ?_)
        · skip
          have tc_71 := ti_ne c_71
          refine lv_iconst (v := (-1)) G0.1 G0.2.1 dX12_text_69 (by decide) ?_
          exact py_iret G0 hr rfl hlk hw ⟨hGM, (Or.inr (Or.inl ⟨by omega, by omega⟩)), (by first | omega | (intro q; omega)), hWF, hKP, hFK⟩ dX12_text_70
        · skip
          have tc_71 := ti_eq c_71
          refine lv_aload_n G0.1 G0.2.1 dX12_text_47 rfl (lv_at hl 0 rfl) ?_
          refine lv_iconst (v := 0) G0.1 G0.2.1 dX12_text_48 (by decide) ?_
          refine py_put (C := RX12) (T := TX12) (N := 54) (k := 2) (v := .int 0) (fs' := [.int v_3, .ref (G.2 u 1), .int 0, .int v_57, .int v_58, .int v_59, .ref (G.2 u 6), .ref (G.2 u 7), .ref (G.2 u 8), .ref (G.2 u 9), .ref (G.2 u 10), .ref (G.2 u 11), .ref (G.2 u 12), .int v_8, .int v_60, .ref (G.2 u 15), .ref (G.2 u 16), .ref (G.2 u 17), .ref (G.2 u 18), .int v_10, .int v_11, .ref (G.2 u 21), .ref (G.2 u 22), .ref (G.2 u 23), .int v_12, .int v_13, .ref (G.2 u 26), .ref (G.2 u 27), .ref (G.2 u 28), .int v_14, .long y_15, .int v_16, .int v_17, .int v_18, .int v_19, .ref (G.2 u 35), .ref (G.2 u 36), .ref (G.2 u 37), .ref (G.2 u 38), .ref (G.2 u 39), .ref (G.2 u 40), .ref (G.2 u 41), .ref (G.2 u 42), .int v_20, .ref (G.2 u 44), .ref (G.2 u 45), .ref (G.2 u 46), .ref (G.2 u 47), .long y_21, .ref (G.2 u 49), .ref (G.2 u 50), .int v_22, .long y_23, .int v_24]) (ty0 := tyX12) G0 hw tyX12_ok nmX12 in_X12_text_X12 rfl hr_61 (by decide) (by decide +kernel) rfl rfl rfl rfl (Nat.le_of_ble_eq_true rfl) rfl dX12_text_49 (fun f_72 H_73 locs h_74 x_75 hw => ?_)
          have hGM := hGM.own hG hWF Tu x_75 (by have z1 := mi_row hr_61 13 rfl; have z2 := mi_row h_74 13 rfl; omega) (by have z1 := mi_row hr_61 31 rfl; have z2 := mi_row h_74 31 rfl; omega)
          have hLVn := fun hy => (hLVn hy).own hG hWF Tu x_75
          have hMB := hMB.kp (kp_f (KP.refl.upd hWF x_75 Tu (Or.inl (by decide)) : KP G [13] false f_48 f_72) (wt12_1 hG Tu) (by decide) (by decide) (fun _ => by decide))
          have hFK := hFK.put hr_61 h_74 2 (by decide) rfl
          have hKP := hKP.upd hWF x_75 Tu (Or.inl (by decide))
          have hWF := wf_upd hWF h_74 x_75 (by rw [Tu]; exact ⟨v_3, 0, v_57, v_58, v_59, v_8, v_60, v_10, v_11, v_12, v_13, v_14, y_15, v_16, v_17, v_18, v_19, v_20, y_21, v_22, y_23, v_24, rfl, ⟨by omega, by omega⟩, ⟨by omega, by omega⟩, ⟨by omega, by omega⟩, ⟨by omega, by omega⟩, ⟨by omega, by omega⟩, ⟨by omega, by omega⟩, ⟨by omega, by omega⟩, ⟨by omega, by omega⟩, ⟨by omega, by omega⟩, ⟨by omega, by omega⟩, ⟨by omega, by omega⟩, ⟨by omega, by omega⟩⟩)
          have tq_76 := mi_row h_74 2 rfl
          have tq_77 := mi_row h_74 4 rfl
          have bv_58 := wf_free v_58
          have tq_78 := mi_row h_74 13 rfl
          have tq_79 := mi_row h_74 20 rfl
          have tq_80 := mi_row h_74 25 rfl
          have tq_81 := mi_row h_74 29 rfl
          have tq_82 := mi_row h_74 31 rfl
          have tq_83 := mi_row h_74 53 rfl
          refine lv_aload_n G0.1 G0.2.1 dX12_text_52 rfl (lv_at hl 0 rfl) ?_
          refine lv_dup G0.1 G0.2.1 dX12_text_53 rfl ?_
          refine py_get (C := RX12) (T := TX12) (N := 54) (k := 13) (v := .int v_8) G0 hw in_X12_text_X12 rfl h_74 (by decide) (by decide +kernel) rfl dX12_text_54 ?_
          refine lv_iconst (v := 1) G0.1 G0.2.1 dX12_text_57 (by decide) ?_
          refine lv_iadd G0.1 G0.2.1 dX12_text_58 ?_
          refine lv_topi (fun x_84 ex_84 => ?_)
          first | have tx_84 := ti_add ex_84 (by omega -splitDisjunctions) (by omega -splitDisjunctions) | skip
          refine py_put (C := RX12) (T := TX12) (N := 54) (k := 13) (v := .int x_84) (fs' := [.int v_3, .ref (G.2 u 1), .int 0, .int v_57, .int v_58, .int v_59, .ref (G.2 u 6), .ref (G.2 u 7), .ref (G.2 u 8), .ref (G.2 u 9), .ref (G.2 u 10), .ref (G.2 u 11), .ref (G.2 u 12), .int x_84, .int v_60, .ref (G.2 u 15), .ref (G.2 u 16), .ref (G.2 u 17), .ref (G.2 u 18), .int v_10, .int v_11, .ref (G.2 u 21), .ref (G.2 u 22), .ref (G.2 u 23), .int v_12, .int v_13, .ref (G.2 u 26), .ref (G.2 u 27), .ref (G.2 u 28), .int v_14, .long y_15, .int v_16, .int v_17, .int v_18, .int v_19, .ref (G.2 u 35), .ref (G.2 u 36), .ref (G.2 u 37), .ref (G.2 u 38), .ref (G.2 u 39), .ref (G.2 u 40), .ref (G.2 u 41), .ref (G.2 u 42), .int v_20, .ref (G.2 u 44), .ref (G.2 u 45), .ref (G.2 u 46), .ref (G.2 u 47), .long y_21, .ref (G.2 u 49), .ref (G.2 u 50), .int v_22, .long y_23, .int v_24]) (ty0 := tyX12) G0 hw tyX12_ok nmX12 in_X12_text_X12 rfl h_74 (by decide) (by decide +kernel) rfl rfl rfl rfl (Nat.le_of_ble_eq_true rfl) rfl dX12_text_59 (fun f_85 H_86 locs h_87 x_88 hw => ?_)
          have hGM := hGM.told hLVn (by omega) hG hWF Tu x_88 (by have z1 := mi_row h_74 13 rfl; have z2 := mi_row h_87 13 rfl; omega) (by have z1 := mi_row h_74 31 rfl; have z2 := mi_row h_87 31 rfl; omega)
          have hLVn := fun hy => (hLVn hy).own hG hWF Tu x_88
          have hMB := hMB.kp (kp_f (KP.refl.upd hWF x_88 Tu (Or.inl (by decide)) : KP G [13] false f_72 f_85) (wt12_1 hG Tu) (by decide) (by decide) (fun _ => by decide))
          have hFK := hFK.put h_74 h_87 13 (by decide) rfl
          have hKP := hKP.upd hWF x_88 Tu (Or.inl (by decide))
          have hWF := wf_upd hWF h_87 x_88 (by rw [Tu]; exact ⟨v_3, 0, v_57, v_58, v_59, x_84, v_60, v_10, v_11, v_12, v_13, v_14, y_15, v_16, v_17, v_18, v_19, v_20, y_21, v_22, y_23, v_24, rfl, ⟨by omega, by omega⟩, ⟨by omega, by omega⟩, ⟨by omega, by omega⟩, ⟨by omega, by omega⟩, ⟨by omega, by omega⟩, ⟨by omega, by omega⟩, ⟨by omega, by omega⟩, ⟨by omega, by omega⟩, ⟨by omega, by omega⟩, ⟨by omega, by omega⟩, ⟨by omega, by omega⟩, ⟨by omega, by omega⟩⟩)
          have tq_89 := mi_row h_87 2 rfl
          have tq_90 := mi_row h_87 4 rfl
          have bv_58 := wf_free v_58
          have tq_91 := mi_row h_87 13 rfl
          have tq_92 := mi_row h_87 20 rfl
          have tq_93 := mi_row h_87 25 rfl
          have tq_94 := mi_row h_87 29 rfl
          have tq_95 := mi_row h_87 31 rfl
          have tq_96 := mi_row h_87 53 rfl
          refine lv_aload_n G0.1 G0.2.1 dX12_text_62 rfl (lv_at hl 0 rfl) ?_
          refine py_get (C := RX12) (T := TX12) (N := 54) (k := 13) (v := .int x_84) G0 hw in_X12_text_X12 rfl h_87 (by decide) (by decide +kernel) rfl dX12_text_63 ?_
          refine lv_iconst (v := 1) G0.1 G0.2.1 dX12_text_66 (by decide) ?_
          refine lv_isub G0.1 G0.2.1 dX12_text_67 ?_
          refine lv_topi (fun x_97 ex_97 => ?_)
          first | have tx_97 := ti_sub ex_97 (by omega -splitDisjunctions) (by omega -splitDisjunctions) | skip
          exact py_iret G0 hr rfl hlk hw ⟨hGM, (Or.inr (Or.inl ⟨by omega, by omega⟩)), (by first | omega | (intro q; omega)), hWF, hKP, hFK⟩ dX12_text_68
  · skip
    have tc_1 := ti_eq c_1
    refine lv_aload_n G0.1 G0.2.1 dX12_text_4 rfl (lv_at hl 0 rfl) ?_
    obtain ⟨v_98, v_99, v_100, v_101, v_102, v_103, v_104, v_105, v_106, v_107, v_108, v_109, y_110, v_111, v_112, v_113, v_114, v_115, y_116, v_117, y_118, v_119, hr_132, b_120, b_121, b_122, b_123, b_124, b_125, b_126, b_127, b_128, b_129, b_130, b_131⟩ := wg_12 hWF Tu
    have tq_133 := mi_row hr_132 2 rfl
    have tq_134 := mi_row hr_132 4 rfl
    have bv_101 := wf_free v_101
    have tq_135 := mi_row hr_132 13 rfl
    have tq_136 := mi_row hr_132 20 rfl
    have tq_137 := mi_row hr_132 25 rfl
    have tq_138 := mi_row hr_132 29 rfl
    have tq_139 := mi_row hr_132 31 rfl
    have tq_140 := mi_row hr_132 53 rfl
    refine py_calli hw (va_runV (As := []) (rest := []) G0 (c_X12_readValley l E G L f s.heap.size u gb nb hG hWF Tu (show mi f u 2 = nb by omega) hMB hNN) (cwV 0 G0.2.2.2.2 g_X12_text_X12_readValley_281 rfl rfl rfl (by decide +kernel) ⟨(Nat.le_of_ble_eq_true rfl), (Nat.le_of_ble_eq_true rfl)⟩) (py_preV hw (C := RX12) (T := TX12) (N := 54) rfl hr_132) rfl rfl hl.1 rfl (lv_room (Nat.le_of_ble_eq_true rfl)) dX12_text_5 ⟨(Nat.le_of_ble_eq_true rfl), (Nat.le_of_ble_eq_true rfl)⟩) (fun r_145 L_141 f_142 H_143 locs hp_144 hw => ?_)
    obtain ⟨en_146, en_147, en_148, en_149, hWF, kp_150, fk_151⟩ := hp_144
    have hGM := hGM.kp hG Tu kp_150 fk_151 (LK.of (by decide)) (by decide)
    have hMB := hMB.kp (kp_f kp_150 (wt12_1 hG Tu) (by decide) (by decide) (fun _ => by decide))
    have hFK := hFK.trans fk_151 (by decide)
    have hKP := hKP.trans kp_150 (by decide) (by decide)
    obtain ⟨v_152, v_153, v_154, v_155, hr_156, b_157, b_158⟩ := fk_3_4_19_20 hWF Tu fk_151 hr_132
    have tq_159 := mi_row hr_156 2 rfl
    have tq_160 := mi_row hr_156 4 rfl
    have bv_153 := wf_free v_153
    have tq_161 := mi_row hr_156 13 rfl
    have tq_162 := mi_row hr_156 20 rfl
    have tq_163 := mi_row hr_156 25 rfl
    have tq_164 := mi_row hr_156 29 rfl
    have tq_165 := mi_row hr_156 31 rfl
    have tq_166 := mi_row hr_156 53 rfl
    have br_145 := wf_free r_145
    refine lv_iconst (v := (-1)) G0.1 G0.2.1 dX12_text_8 (by decide) ?_
    refine lv_icmp_ne (tgt := 22) G0.1 G0.2.1 dX12_text_9 (by decide) (fun c_167 => ?_) (fun c_167 => ?_)
    · skip
      have tc_167 := ti_ne c_167
      clear en_148
      refine lv_iload_n G0.1 G0.2.1 dX12_text_22 rfl (lv_at hl 1 rfl) ?_
      refine lv_iconst (v := 1) G0.1 G0.2.1 dX12_text_23 (by decide) ?_
      refine lv_icmp_ne (tgt := 69) G0.1 G0.2.1 dX12_text_24 (by decide) (fun c_168 => ?_) (fun c_168 => ?_)
      · skip
        have tc_168 := ti_ne c_168
        refine lv_iconst (v := (-1)) G0.1 G0.2.1 dX12_text_69 (by decide) ?_
        exact py_iret G0 hr rfl hlk hw ⟨hGM, (Or.inl ⟨by omega, _, en_147, by omega⟩), (by first | omega | (intro q; omega)), hWF, hKP, hFK⟩ dX12_text_70
      · skip
        have tc_168 := ti_eq c_168
        refine lv_aload_n G0.1 G0.2.1 dX12_text_27 rfl (lv_at hl 0 rfl) ?_
        refine py_get (C := RX12) (T := TX12) (N := 54) (k := 13) (v := .int v_103) G0 hw in_X12_text_X12 rfl hr_156 (by decide) (by decide +kernel) rfl dX12_text_28 ?_
        refine lv_iconst (v := 4) G0.1 G0.2.1 dX12_text_31 (by decide) ?_
        refine lv_icmp_ge (tgt := 69) G0.1 G0.2.1 dX12_text_32 (by decide) (fun c_169 => ?_) (fun c_169 => ?_)
        · skip
          have tc_169 := ti_le c_169
          refine lv_iconst (v := (-1)) G0.1 G0.2.1 dX12_text_69 (by decide) ?_
          exact py_iret G0 hr rfl hlk hw ⟨hGM, (Or.inl ⟨by omega, _, en_147, by omega⟩), (by first | omega | (intro q; omega)), hWF, hKP, hFK⟩ dX12_text_70
        · skip
          have tc_169 := ti_nle c_169
          refine lv_aload_n G0.1 G0.2.1 dX12_text_35 rfl (lv_at hl 0 rfl) ?_
          refine lv_aload_n G0.1 G0.2.1 dX12_text_36 rfl (lv_at hl 0 rfl) ?_
          refine py_get (C := RX12) (T := TX12) (N := 54) (k := 13) (v := .int v_103) G0 hw in_X12_text_X12 rfl hr_156 (by decide) (by decide +kernel) rfl dX12_text_37 ?_
          refine py_calli hw (va_runV (As := [.int v_103]) (rest := []) G0 (c_X12_readLaw l E G L_141 f_142 H_143.size u v_103 gb nb hG hWF Tu ⟨by omega, by omega⟩ (show mi f_142 u 2 = nb by omega) hMB hNN) (cwV 1 G0.2.2.2.2 g_X12_text_X12_readLaw_284 rfl rfl rfl (by decide +kernel) ⟨(Nat.le_of_ble_eq_true rfl), (Nat.le_of_ble_eq_true rfl)⟩) (py_preV hw (C := RX12) (T := TX12) (N := 54) rfl hr_156) rfl rfl hl.1 rfl (lv_room (Nat.le_of_ble_eq_true rfl)) dX12_text_40 ⟨(Nat.le_of_ble_eq_true rfl), (Nat.le_of_ble_eq_true rfl)⟩) (fun r_174 L_170 f_171 H_172 locs hp_173 hw => ?_)
          obtain ⟨en_175, en_176, en_177, hWF, kp_178, fk_179⟩ := hp_173
          have hMB := hMB.kp (kp_f kp_178 (wt12_1 hG Tu) (by decide) (by decide) (fun _ => by decide))
          have hFK := hFK.trans fk_179 (by decide)
          have hKP := hKP.trans kp_178 (by decide) (by decide)
          obtain ⟨v_180, v_181, v_182, v_183, hr_184, b_185⟩ := fk_3_4_5_14 hWF Tu fk_179 hr_156
          have tq_186 := mi_row hr_184 2 rfl
          have tq_187 := mi_row hr_184 4 rfl
          have bv_181 := wf_free v_181
          have tq_188 := mi_row hr_184 13 rfl
          have tq_189 := mi_row hr_184 20 rfl
          have tq_190 := mi_row hr_184 25 rfl
          have tq_191 := mi_row hr_184 29 rfl
          have tq_192 := mi_row hr_184 31 rfl
          have tq_193 := mi_row hr_184 53 rfl
          have hGM : GM f_171 G u := hGM.lb en_176 (fk_mi fk_179 31 (by decide) (by decide)) (fk_mi fk_179 13 (by decide) (by decide)) (by omega)
          have hLVn : r_174.toInt = -1 → LV f_171 G u v_103.toInt := en_175
          have br_174 := wf_free r_174
          refine lv_iconst (v := (-1)) G0.1 G0.2.1 dX12_text_43 (by decide) ?_
          refine lv_icmp_ne (tgt := 69) G0.1 G0.2.1 dX12_text_44 (by decide) (fun c_194 => ?_) (fun c_194 => ?_)
          · skip
            have tc_194 := ti_ne c_194
            refine lv_iconst (v := (-1)) G0.1 G0.2.1 dX12_text_69 (by decide) ?_
            exact py_iret G0 hr rfl hlk hw ⟨hGM, (Or.inr (Or.inl ⟨by omega, by omega⟩)), (by first | omega | (intro q; omega)), hWF, hKP, hFK⟩ dX12_text_70
          · skip
            have tc_194 := ti_eq c_194
            refine lv_aload_n G0.1 G0.2.1 dX12_text_47 rfl (lv_at hl 0 rfl) ?_
            refine lv_iconst (v := 0) G0.1 G0.2.1 dX12_text_48 (by decide) ?_
            refine py_put (C := RX12) (T := TX12) (N := 54) (k := 2) (v := .int 0) (fs' := [.int v_98, .ref (G.2 u 1), .int 0, .int v_180, .int v_181, .int v_182, .ref (G.2 u 6), .ref (G.2 u 7), .ref (G.2 u 8), .ref (G.2 u 9), .ref (G.2 u 10), .ref (G.2 u 11), .ref (G.2 u 12), .int v_103, .int v_183, .ref (G.2 u 15), .ref (G.2 u 16), .ref (G.2 u 17), .ref (G.2 u 18), .int v_154, .int v_155, .ref (G.2 u 21), .ref (G.2 u 22), .ref (G.2 u 23), .int v_107, .int v_108, .ref (G.2 u 26), .ref (G.2 u 27), .ref (G.2 u 28), .int v_109, .long y_110, .int v_111, .int v_112, .int v_113, .int v_114, .ref (G.2 u 35), .ref (G.2 u 36), .ref (G.2 u 37), .ref (G.2 u 38), .ref (G.2 u 39), .ref (G.2 u 40), .ref (G.2 u 41), .ref (G.2 u 42), .int v_115, .ref (G.2 u 44), .ref (G.2 u 45), .ref (G.2 u 46), .ref (G.2 u 47), .long y_116, .ref (G.2 u 49), .ref (G.2 u 50), .int v_117, .long y_118, .int v_119]) (ty0 := tyX12) G0 hw tyX12_ok nmX12 in_X12_text_X12 rfl hr_184 (by decide) (by decide +kernel) rfl rfl rfl rfl (Nat.le_of_ble_eq_true rfl) rfl dX12_text_49 (fun f_195 H_196 locs h_197 x_198 hw => ?_)
            have hGM := hGM.own hG hWF Tu x_198 (by have z1 := mi_row hr_184 13 rfl; have z2 := mi_row h_197 13 rfl; omega) (by have z1 := mi_row hr_184 31 rfl; have z2 := mi_row h_197 31 rfl; omega)
            have hLVn := fun hy => (hLVn hy).own hG hWF Tu x_198
            have hMB := hMB.kp (kp_f (KP.refl.upd hWF x_198 Tu (Or.inl (by decide)) : KP G [13] false f_171 f_195) (wt12_1 hG Tu) (by decide) (by decide) (fun _ => by decide))
            have hFK := hFK.put hr_184 h_197 2 (by decide) rfl
            have hKP := hKP.upd hWF x_198 Tu (Or.inl (by decide))
            have hWF := wf_upd hWF h_197 x_198 (by rw [Tu]; exact ⟨v_98, 0, v_180, v_181, v_182, v_103, v_183, v_154, v_155, v_107, v_108, v_109, y_110, v_111, v_112, v_113, v_114, v_115, y_116, v_117, y_118, v_119, rfl, ⟨by omega, by omega⟩, ⟨by omega, by omega⟩, ⟨by omega, by omega⟩, ⟨by omega, by omega⟩, ⟨by omega, by omega⟩, ⟨by omega, by omega⟩, ⟨by omega, by omega⟩, ⟨by omega, by omega⟩, ⟨by omega, by omega⟩, ⟨by omega, by omega⟩, ⟨by omega, by omega⟩, ⟨by omega, by omega⟩⟩)
            have tq_199 := mi_row h_197 2 rfl
            have tq_200 := mi_row h_197 4 rfl
            have bv_181 := wf_free v_181
            have tq_201 := mi_row h_197 13 rfl
            have tq_202 := mi_row h_197 20 rfl
            have tq_203 := mi_row h_197 25 rfl
            have tq_204 := mi_row h_197 29 rfl
            have tq_205 := mi_row h_197 31 rfl
            have tq_206 := mi_row h_197 53 rfl
            refine lv_aload_n G0.1 G0.2.1 dX12_text_52 rfl (lv_at hl 0 rfl) ?_
            refine lv_dup G0.1 G0.2.1 dX12_text_53 rfl ?_
            refine py_get (C := RX12) (T := TX12) (N := 54) (k := 13) (v := .int v_103) G0 hw in_X12_text_X12 rfl h_197 (by decide) (by decide +kernel) rfl dX12_text_54 ?_
            refine lv_iconst (v := 1) G0.1 G0.2.1 dX12_text_57 (by decide) ?_
            refine lv_iadd G0.1 G0.2.1 dX12_text_58 ?_
            refine lv_topi (fun x_207 ex_207 => ?_)
            first | have tx_207 := ti_add ex_207 (by omega -splitDisjunctions) (by omega -splitDisjunctions) | skip
            refine py_put (C := RX12) (T := TX12) (N := 54) (k := 13) (v := .int x_207) (fs' := [.int v_98, .ref (G.2 u 1), .int 0, .int v_180, .int v_181, .int v_182, .ref (G.2 u 6), .ref (G.2 u 7), .ref (G.2 u 8), .ref (G.2 u 9), .ref (G.2 u 10), .ref (G.2 u 11), .ref (G.2 u 12), .int x_207, .int v_183, .ref (G.2 u 15), .ref (G.2 u 16), .ref (G.2 u 17), .ref (G.2 u 18), .int v_154, .int v_155, .ref (G.2 u 21), .ref (G.2 u 22), .ref (G.2 u 23), .int v_107, .int v_108, .ref (G.2 u 26), .ref (G.2 u 27), .ref (G.2 u 28), .int v_109, .long y_110, .int v_111, .int v_112, .int v_113, .int v_114, .ref (G.2 u 35), .ref (G.2 u 36), .ref (G.2 u 37), .ref (G.2 u 38), .ref (G.2 u 39), .ref (G.2 u 40), .ref (G.2 u 41), .ref (G.2 u 42), .int v_115, .ref (G.2 u 44), .ref (G.2 u 45), .ref (G.2 u 46), .ref (G.2 u 47), .long y_116, .ref (G.2 u 49), .ref (G.2 u 50), .int v_117, .long y_118, .int v_119]) (ty0 := tyX12) G0 hw tyX12_ok nmX12 in_X12_text_X12 rfl h_197 (by decide) (by decide +kernel) rfl rfl rfl rfl (Nat.le_of_ble_eq_true rfl) rfl dX12_text_59 (fun f_208 H_209 locs h_210 x_211 hw => ?_)
            have hGM := hGM.told hLVn (by omega) hG hWF Tu x_211 (by have z1 := mi_row h_197 13 rfl; have z2 := mi_row h_210 13 rfl; omega) (by have z1 := mi_row h_197 31 rfl; have z2 := mi_row h_210 31 rfl; omega)
            have hLVn := fun hy => (hLVn hy).own hG hWF Tu x_211
            have hMB := hMB.kp (kp_f (KP.refl.upd hWF x_211 Tu (Or.inl (by decide)) : KP G [13] false f_195 f_208) (wt12_1 hG Tu) (by decide) (by decide) (fun _ => by decide))
            have hFK := hFK.put h_197 h_210 13 (by decide) rfl
            have hKP := hKP.upd hWF x_211 Tu (Or.inl (by decide))
            have hWF := wf_upd hWF h_210 x_211 (by rw [Tu]; exact ⟨v_98, 0, v_180, v_181, v_182, x_207, v_183, v_154, v_155, v_107, v_108, v_109, y_110, v_111, v_112, v_113, v_114, v_115, y_116, v_117, y_118, v_119, rfl, ⟨by omega, by omega⟩, ⟨by omega, by omega⟩, ⟨by omega, by omega⟩, ⟨by omega, by omega⟩, ⟨by omega, by omega⟩, ⟨by omega, by omega⟩, ⟨by omega, by omega⟩, ⟨by omega, by omega⟩, ⟨by omega, by omega⟩, ⟨by omega, by omega⟩, ⟨by omega, by omega⟩, ⟨by omega, by omega⟩⟩)
            have tq_212 := mi_row h_210 2 rfl
            have tq_213 := mi_row h_210 4 rfl
            have bv_181 := wf_free v_181
            have tq_214 := mi_row h_210 13 rfl
            have tq_215 := mi_row h_210 20 rfl
            have tq_216 := mi_row h_210 25 rfl
            have tq_217 := mi_row h_210 29 rfl
            have tq_218 := mi_row h_210 31 rfl
            have tq_219 := mi_row h_210 53 rfl
            refine lv_aload_n G0.1 G0.2.1 dX12_text_62 rfl (lv_at hl 0 rfl) ?_
            refine py_get (C := RX12) (T := TX12) (N := 54) (k := 13) (v := .int x_207) G0 hw in_X12_text_X12 rfl h_210 (by decide) (by decide +kernel) rfl dX12_text_63 ?_
            refine lv_iconst (v := 1) G0.1 G0.2.1 dX12_text_66 (by decide) ?_
            refine lv_isub G0.1 G0.2.1 dX12_text_67 ?_
            refine lv_topi (fun x_220 ex_220 => ?_)
            first | have tx_220 := ti_sub ex_220 (by omega -splitDisjunctions) (by omega -splitDisjunctions) | skip
            exact py_iret G0 hr rfl hlk hw ⟨hGM, (Or.inr (Or.inl ⟨by omega, by omega⟩)), (by first | omega | (intro q; omega)), hWF, hKP, hFK⟩ dX12_text_68
    · skip
      have tc_167 := ti_eq c_167
      replace en_148 := en_148 (by omega)
      refine lv_aload_n G0.1 G0.2.1 dX12_text_12 rfl (lv_at hl 0 rfl) ?_
      refine lv_iconst (v := 0) G0.1 G0.2.1 dX12_text_13 (by decide) ?_
      refine py_put (C := RX12) (T := TX12) (N := 54) (k := 2) (v := .int 0) (fs' := [.int v_98, .ref (G.2 u 1), .int 0, .int v_152, .int v_153, .int v_102, .ref (G.2 u 6), .ref (G.2 u 7), .ref (G.2 u 8), .ref (G.2 u 9), .ref (G.2 u 10), .ref (G.2 u 11), .ref (G.2 u 12), .int v_103, .int v_104, .ref (G.2 u 15), .ref (G.2 u 16), .ref (G.2 u 17), .ref (G.2 u 18), .int v_154, .int v_155, .ref (G.2 u 21), .ref (G.2 u 22), .ref (G.2 u 23), .int v_107, .int v_108, .ref (G.2 u 26), .ref (G.2 u 27), .ref (G.2 u 28), .int v_109, .long y_110, .int v_111, .int v_112, .int v_113, .int v_114, .ref (G.2 u 35), .ref (G.2 u 36), .ref (G.2 u 37), .ref (G.2 u 38), .ref (G.2 u 39), .ref (G.2 u 40), .ref (G.2 u 41), .ref (G.2 u 42), .int v_115, .ref (G.2 u 44), .ref (G.2 u 45), .ref (G.2 u 46), .ref (G.2 u 47), .long y_116, .ref (G.2 u 49), .ref (G.2 u 50), .int v_117, .long y_118, .int v_119]) (ty0 := tyX12) G0 hw tyX12_ok nmX12 in_X12_text_X12 rfl hr_156 (by decide) (by decide +kernel) rfl rfl rfl rfl (Nat.le_of_ble_eq_true rfl) rfl dX12_text_14 (fun f_221 H_222 locs h_223 x_224 hw => ?_)
      have hGM := hGM.own hG hWF Tu x_224 (by have z1 := mi_row hr_156 13 rfl; have z2 := mi_row h_223 13 rfl; omega) (by have z1 := mi_row hr_156 31 rfl; have z2 := mi_row h_223 31 rfl; omega)
      have hMB := hMB.kp (kp_f (KP.refl.upd hWF x_224 Tu (Or.inl (by decide)) : KP G [13] false f_142 f_221) (wt12_1 hG Tu) (by decide) (by decide) (fun _ => by decide))
      have hFK := hFK.put hr_156 h_223 2 (by decide) rfl
      have hKP := hKP.upd hWF x_224 Tu (Or.inl (by decide))
      have hWF := wf_upd hWF h_223 x_224 (by rw [Tu]; exact ⟨v_98, 0, v_152, v_153, v_102, v_103, v_104, v_154, v_155, v_107, v_108, v_109, y_110, v_111, v_112, v_113, v_114, v_115, y_116, v_117, y_118, v_119, rfl, ⟨by omega, by omega⟩, ⟨by omega, by omega⟩, ⟨by omega, by omega⟩, ⟨by omega, by omega⟩, ⟨by omega, by omega⟩, ⟨by omega, by omega⟩, ⟨by omega, by omega⟩, ⟨by omega, by omega⟩, ⟨by omega, by omega⟩, ⟨by omega, by omega⟩, ⟨by omega, by omega⟩, ⟨by omega, by omega⟩⟩)
      have tq_225 := mi_row h_223 2 rfl
      have tq_226 := mi_row h_223 4 rfl
      have bv_153 := wf_free v_153
      have tq_227 := mi_row h_223 13 rfl
      have tq_228 := mi_row h_223 20 rfl
      have tq_229 := mi_row h_223 25 rfl
      have tq_230 := mi_row h_223 29 rfl
      have tq_231 := mi_row h_223 31 rfl
      have tq_232 := mi_row h_223 53 rfl
      refine lv_aload_n G0.1 G0.2.1 dX12_text_17 rfl (lv_at hl 0 rfl) ?_
      have hrf0 := en_146 (by omega)
      have hrf := hrf0.same (x_224 _ (hWF _ (by rw [wt12_18 hG Tu]; decide)).1 (wf_ne (wt12_18 hG Tu) Tu (by decide))).2 (show mi f_221 u 20 = mi f_142 u 20 by omega)
      refine py_calli hw (va_runV (As := []) (rest := []) G0 (c_X12_takeValley l E G L_141 f_221 H_222.size u hG hWF Tu hrf) (cwV 0 G0.2.2.2.2 g_X12_text_X12_takeValley_319 rfl rfl rfl (by decide +kernel) ⟨(Nat.le_of_ble_eq_true rfl), (Nat.le_of_ble_eq_true rfl)⟩) (py_preV hw (C := RX12) (T := TX12) (N := 54) rfl h_223) rfl rfl hl.1 rfl (lv_room (Nat.le_of_ble_eq_true rfl)) dX12_text_18 ⟨(Nat.le_of_ble_eq_true rfl), (Nat.le_of_ble_eq_true rfl)⟩) (fun r_237 L_233 f_234 H_235 locs hp_236 hw => ?_)
      obtain ⟨en_238, en_239, hWF, kp_240, fk_241⟩ := hp_236
      have hGM := hGM.kp hG Tu kp_240 fk_241 (LK.of (by decide)) (by decide)
      have hMB := hMB.kp (kp_f kp_240 (wt12_1 hG Tu) (by decide) (by decide) (fun _ => by decide))
      have hFK := hFK.trans fk_241 (by decide)
      have hKP := hKP.trans kp_240 (by decide) (by decide)
      obtain ⟨v_242, v_243, v_244, v_245, v_246, hr_247, b_248, b_249, b_250, b_251, b_252⟩ := fk_24_25_29_43_53 hWF Tu fk_241 h_223
      have tq_253 := mi_row hr_247 2 rfl
      have tq_254 := mi_row hr_247 4 rfl
      have bv_153 := wf_free v_153
      have tq_255 := mi_row hr_247 13 rfl
      have tq_256 := mi_row hr_247 20 rfl
      have tq_257 := mi_row hr_247 25 rfl
      have tq_258 := mi_row hr_247 29 rfl
      have tq_259 := mi_row hr_247 31 rfl
      have tq_260 := mi_row hr_247 53 rfl
      have br_237 := wf_free r_237
      exact py_iret G0 hr rfl hlk hw ⟨hGM, (Or.inl ⟨by omega, _, en_147, by omega⟩), (by first | omega | (intro q; omega)), hWF, hKP, hFK⟩ dX12_text_21

def w_X12_fault : List Cond := .code yX12_fault cX12_fault 2 (some .int) :: ([Cond.methodLink RX12 284 yX12_readLaw, Cond.instanceMethod yX12_readLaw, Cond.selects RX12 yX12_readLaw yX12_readLaw, Cond.initialized RX12, Cond.methodLink RX12 281 yX12_readValley, Cond.instanceMethod yX12_readValley, Cond.selects RX12 yX12_readValley yX12_readValley] ++ (w_X12_readLaw ++ (w_X12_readValley ++ ([]))))
theorem gg_X12_fault_X12_readLaw : GoodIn w_X12_fault w_X12_readLaw := goodIn_sub (fun _ h => List.mem_cons_of_mem _ (List.mem_append_right _ (List.mem_append_left _ h))) (by decide +kernel)
theorem gg_X12_fault_X12_readValley : GoodIn w_X12_fault w_X12_readValley := goodIn_sub (fun _ h => List.mem_cons_of_mem _ (List.mem_append_right _ (List.mem_append_right _ (List.mem_append_left _ h)))) (by decide +kernel)
theorem g_X12_fault_X12_readLaw_284 : GoodIn w_X12_fault (wsV RX12 284 RX12 yX12_readLaw w_X12_readLaw) := goodIn_app (goodIn_of _ (by decide +kernel)) gg_X12_fault_X12_readLaw
theorem g_X12_fault_X12_readValley_281 : GoodIn w_X12_fault (wsV RX12 281 RX12 yX12_readValley w_X12_readValley) := goodIn_app (goodIn_of _ (by decide +kernel)) gg_X12_fault_X12_readValley
set_option maxHeartbeats 4000000 in
set_option maxRecDepth 100000 in
theorem c_X12_fault (l : Launch) (E : py_E) (G : wf_G) (L : List Nat) (f : py_F) (sz : Nat) (u : Nat) (a : Int32) (gb : rs_B) (nb : Int) (hG : GT G) (hWF : WF E G L f) (Tu : G.1 u = 13) (hp0 : mi f u 2 = nb ∧ 0 ≤ nb ∧ nb ≤ 160) (hq0 : GM f G u) (hq1 : AG f (G.2 u 1) gb nb) (hq2 : rs_nn gb nb) : Met l yX12_fault w_X12_fault ({ frames := 69, cells := 0, slots := 0, locals := 3723 }) (py_Pc E [.ref u, .int a] L f sz) (py_Qi E L f sz (fun r L1 f1 => (GM f1 G u) ∧ (a.toInt = 0 → RVF gb nb r.toInt) ∧ (a.toInt = 1 → r.toInt = rs_law gb nb) ∧ (a.toInt ≠ 0 → a.toInt ≠ 1 → r.toInt = -2) ∧ WF E G L1 f1 ∧ KP G [41, 42, 43, 44, 45, 46, 47, 50, 51, 13] false f f1 ∧ FK [3, 4, 5, 14, 19, 20] f f1 u)) 0 0 (va_A (va_pl L f) sz) := by
  refine Met.ofW (cc := cX12_fault) (maxL := 2) (ret := (some .int)) (by decide) rfl ?_
  intro p e s m args below meth c s₁ B hml hv
  obtain ⟨rfl, rfl, hw⟩ := py_start hv
  have G0 : CallFix p m c cX12_fault 2 s _ w_X12_fault RX12 := ⟨B.exec, B.bytes, hml, findClass_of_methodNamed B.named, atoms_spec (ws := w_X12_fault) B.pre⟩
  have hr := B.returns
  have hlk := B.notSynchronized
  have kcm2 : (-2 : Int32).toInt = -2 := rfl
  have kcm1 : (-1 : Int32).toInt = -1 := rfl
  have kc0 : (0 : Int32).toInt = 0 := rfl
  have kc1 : (1 : Int32).toInt = 1 := rfl
  have kc4 : (4 : Int32).toInt = 4 := rfl
  have hl := lv_entry ([.ref u, .int a]) (n := 2) (Nat.le_of_ble_eq_true rfl)
  rw [lg_entry_eq]
  generalize (lg_sl ([.ref u, .int a]) ++ List.replicate (2 - (lg_sl ([.ref u, .int a])).length) Slot.unset).toArray = ls at hl ⊢
  have hl : lv_has ls 2 [(0, .ref u), (1, .int a)] := hl
  have hFK : FK [3, 4, 5, 14, 19, 20] f f u := FK.refl
  have hKP : KP G [41, 42, 43, 44, 45, 46, 47, 50, 51, 13] false f f := KP.refl
  have hGM := hq0
  have hMB := hq1
  have hNN := hq2
  refine lv_iload_n G0.1 G0.2.1 dX12_fault_0 rfl (lv_at hl 1 rfl) ?_
  refine lv_if_ne (tgt := 11) G0.1 G0.2.1 dX12_fault_1 (by decide) (fun c_1 => ?_) (fun c_1 => ?_)
  · skip
    have tc_1 := ti_ne c_1
    refine lv_iload_n G0.1 G0.2.1 dX12_fault_11 rfl (lv_at hl 1 rfl) ?_
    refine lv_iconst (v := 1) G0.1 G0.2.1 dX12_fault_12 (by decide) ?_
    refine lv_icmp_ne (tgt := 24) G0.1 G0.2.1 dX12_fault_13 (by decide) (fun c_2 => ?_) (fun c_2 => ?_)
    · skip
      have tc_2 := ti_ne c_2
      refine lv_bipush (v := (-2)) G0.1 G0.2.1 dX12_fault_24 (by decide) ?_
      exact py_iret G0 hr rfl hlk hw ⟨hGM, (fun q => absurd q (by omega)), (by first | omega | (intro q; omega)), (by first | omega | (intro q; omega)), hWF, hKP, hFK⟩ dX12_fault_26
    · skip
      have tc_2 := ti_eq c_2
      refine lv_aload_n G0.1 G0.2.1 dX12_fault_16 rfl (lv_at hl 0 rfl) ?_
      refine lv_iconst (v := 4) G0.1 G0.2.1 dX12_fault_17 (by decide) ?_
      obtain ⟨v_3, v_4, v_5, v_6, v_7, v_8, v_9, v_10, v_11, v_12, v_13, v_14, y_15, v_16, v_17, v_18, v_19, v_20, y_21, v_22, y_23, v_24, hr_37, b_25, b_26, b_27, b_28, b_29, b_30, b_31, b_32, b_33, b_34, b_35, b_36⟩ := wg_12 hWF Tu
      have tq_38 := mi_row hr_37 2 rfl
      have tq_39 := mi_row hr_37 13 rfl
      have tq_40 := mi_row hr_37 31 rfl
      refine py_calli hw (va_runV (As := [.int 4]) (rest := []) G0 (c_X12_readLaw l E G L f s.heap.size u 4 gb nb hG hWF Tu ⟨by omega, by omega⟩ (show mi f u 2 = nb by omega) hMB hNN) (cwV 1 G0.2.2.2.2 g_X12_fault_X12_readLaw_284 rfl rfl rfl (by decide +kernel) ⟨(Nat.le_of_ble_eq_true rfl), (Nat.le_of_ble_eq_true rfl)⟩) (py_preV hw (C := RX12) (T := TX12) (N := 54) rfl hr_37) rfl rfl hl.1 rfl (lv_room (Nat.le_of_ble_eq_true rfl)) dX12_fault_18 ⟨(Nat.le_of_ble_eq_true rfl), (Nat.le_of_ble_eq_true rfl)⟩) (fun r_45 L_41 f_42 H_43 locs hp_44 hw => ?_)
      obtain ⟨en_46, en_47, en_48, hWF, kp_49, fk_50⟩ := hp_44
      have en_46 : r_45.toInt = -1 → LV f_42 G u (4 : Int) := en_46
      have en_47 : LB f G u f_42 (4 : Int) := en_47
      have hMB := hMB.kp (kp_f kp_49 (wt12_1 hG Tu) (by decide) (by decide) (fun _ => by decide))
      have hFK := hFK.trans fk_50 (by decide)
      have hKP := hKP.trans kp_49 (by decide) (by decide)
      obtain ⟨v_51, v_52, v_53, v_54, hr_55, b_56⟩ := fk_3_4_5_14 hWF Tu fk_50 hr_37
      have tq_57 := mi_row hr_55 2 rfl
      have tq_58 := mi_row hr_55 13 rfl
      have tq_59 := mi_row hr_55 31 rfl
      have hGM : GM f_42 G u := hGM.lb en_47 (fk_mi fk_50 31 (by decide) (by decide)) (fk_mi fk_50 13 (by decide) (by decide)) (by omega)
      have br_45 := wf_free r_45
      refine lv_goto (tgt := 26) G0.1 G0.2.1 dX12_fault_21 (by decide) ?_
      exact py_iret G0 hr rfl hlk hw ⟨hGM, (fun q => absurd q (by omega)), (by first | omega | (intro q; omega)), (by first | omega | (intro q; omega)), hWF, hKP, hFK⟩ dX12_fault_26
  · skip
    have tc_1 := ti_eq c_1
    refine lv_aload_n G0.1 G0.2.1 dX12_fault_4 rfl (lv_at hl 0 rfl) ?_
    obtain ⟨v_60, v_61, v_62, v_63, v_64, v_65, v_66, v_67, v_68, v_69, v_70, v_71, y_72, v_73, v_74, v_75, v_76, v_77, y_78, v_79, y_80, v_81, hr_94, b_82, b_83, b_84, b_85, b_86, b_87, b_88, b_89, b_90, b_91, b_92, b_93⟩ := wg_12 hWF Tu
    have tq_95 := mi_row hr_94 2 rfl
    have tq_96 := mi_row hr_94 13 rfl
    have tq_97 := mi_row hr_94 31 rfl
    refine py_calli hw (va_runV (As := []) (rest := []) G0 (c_X12_readValley l E G L f s.heap.size u gb nb hG hWF Tu (show mi f u 2 = nb by omega) hMB hNN) (cwV 0 G0.2.2.2.2 g_X12_fault_X12_readValley_281 rfl rfl rfl (by decide +kernel) ⟨(Nat.le_of_ble_eq_true rfl), (Nat.le_of_ble_eq_true rfl)⟩) (py_preV hw (C := RX12) (T := TX12) (N := 54) rfl hr_94) rfl rfl hl.1 rfl (lv_room (Nat.le_of_ble_eq_true rfl)) dX12_fault_5 ⟨(Nat.le_of_ble_eq_true rfl), (Nat.le_of_ble_eq_true rfl)⟩) (fun r_102 L_98 f_99 H_100 locs hp_101 hw => ?_)
    obtain ⟨en_103, en_104, en_105, en_106, hWF, kp_107, fk_108⟩ := hp_101
    have hGM := hGM.kp hG Tu kp_107 fk_108 (LK.of (by decide)) (by decide)
    have hMB := hMB.kp (kp_f kp_107 (wt12_1 hG Tu) (by decide) (by decide) (fun _ => by decide))
    have hFK := hFK.trans fk_108 (by decide)
    have hKP := hKP.trans kp_107 (by decide) (by decide)
    obtain ⟨v_109, v_110, v_111, v_112, hr_113, b_114, b_115⟩ := fk_3_4_19_20 hWF Tu fk_108 hr_94
    have tq_116 := mi_row hr_113 2 rfl
    have tq_117 := mi_row hr_113 13 rfl
    have tq_118 := mi_row hr_113 31 rfl
    have br_102 := wf_free r_102
    refine lv_goto (tgt := 26) G0.1 G0.2.1 dX12_fault_8 (by decide) ?_
    exact py_iret G0 hr rfl hlk hw ⟨hGM, (fun _ => en_104), (by first | omega | (intro q; omega)), (by first | omega | (intro q; omega)), hWF, hKP, hFK⟩ dX12_fault_26

def w_X12_law : List Cond := .code yX12_law cX12_law 2 (some .boolean) :: ([Cond.fieldLink RX12 322 "HeadYearModel" "laws" "I", Cond.methodLink RX12 232 yX12_in, Cond.static yX12_in, Cond.initialized RX12, Cond.fieldLink RX12 64 "HeadYearModel" "holding" "I"] ++ (u_ws RX12 TX12 54 ++ (w_X12_in ++ ([]))))
theorem in_X12_law_X12 : ∀ w ∈ u_ws RX12 TX12 54, w ∈ w_X12_law := fun _ h => List.mem_cons_of_mem _ (List.mem_append_right _ (List.mem_append_left _ h))
theorem gg_X12_law_X12_in : GoodIn w_X12_law w_X12_in := goodIn_sub (fun _ h => List.mem_cons_of_mem _ (List.mem_append_right _ (List.mem_append_right _ (List.mem_append_left _ h)))) (by decide +kernel)
theorem g_X12_law_X12_in_232 : GoodIn w_X12_law (va_wsS RX12 232 yX12_in w_X12_in) := goodIn_app (goodIn_of _ (by decide +kernel)) gg_X12_law_X12_in
set_option maxHeartbeats 4000000 in
set_option maxRecDepth 100000 in
theorem c_X12_lawG (l : Launch) (E : py_E) (G : wf_G) (L : List Nat) (f : py_F) (sz : Nat) (u : Nat) (a : Int32) (hG : GT G) (hWF : WF E G L f) (Tu : G.1 u = 13) (hq0 : GM f G u) : Met l yX12_law w_X12_law ({ frames := 1, cells := 0, slots := 0, locals := 22 }) (py_Pc E [.ref u, .int a] L f sz) (py_Qi E L f sz (fun r L1 f1 => (0 ≤ r.toInt ∧ r.toInt ≤ 1) ∧ (GM f1 G u) ∧ (r.toInt ≠ 0 → -1 ≤ a.toInt ∧ a.toInt < mi f u 13) ∧ (r.toInt = 0 → a.toInt < -1 ∨ mi f u 13 ≤ a.toInt) ∧ WF E G L1 f1 ∧ KP G [13] false f f1 ∧ FK [31] f f1 u)) 0 0 (va_A (va_pl L f) sz) := by
  refine Met.ofW (cc := cX12_law) (maxL := 2) (ret := (some .boolean)) (by decide) rfl ?_
  intro p e s m args below meth c s₁ B hml hv
  obtain ⟨rfl, rfl, hw⟩ := py_start hv
  have G0 : CallFix p m c cX12_law 2 s _ w_X12_law RX12 := ⟨B.exec, B.bytes, hml, findClass_of_methodNamed B.named, atoms_spec (ws := w_X12_law) B.pre⟩
  have hr := B.returns
  have hlk := B.notSynchronized
  have kcm1 : (-1 : Int32).toInt = -1 := rfl
  have kc0 : (0 : Int32).toInt = 0 := rfl
  have kc1 : (1 : Int32).toInt = 1 := rfl
  have hl := lv_entry ([.ref u, .int a]) (n := 2) (Nat.le_of_ble_eq_true rfl)
  rw [lg_entry_eq]
  generalize (lg_sl ([.ref u, .int a]) ++ List.replicate (2 - (lg_sl ([.ref u, .int a])).length) Slot.unset).toArray = ls at hl ⊢
  have hl : lv_has ls 2 [(0, .ref u), (1, .int a)] := hl
  have hFK : FK [31] f f u := FK.refl
  have hKP : KP G [13] false f f := KP.refl
  have hGM := hq0
  refine lv_iload_n G0.1 G0.2.1 dX12_law_0 rfl (lv_at hl 1 rfl) ?_
  refine lv_iconst (v := (-1)) G0.1 G0.2.1 dX12_law_1 (by decide) ?_
  refine lv_aload_n G0.1 G0.2.1 dX12_law_2 rfl (lv_at hl 0 rfl) ?_
  obtain ⟨v_1, v_2, v_3, v_4, v_5, v_6, v_7, v_8, v_9, v_10, v_11, v_12, y_13, v_14, v_15, v_16, v_17, v_18, y_19, v_20, y_21, v_22, hr_35, b_23, b_24, b_25, b_26, b_27, b_28, b_29, b_30, b_31, b_32, b_33, b_34⟩ := wg_12 hWF Tu
  have tq_36 := mi_row hr_35 13 rfl
  have tq_37 := mi_row hr_35 31 rfl
  refine py_get (C := RX12) (T := TX12) (N := 54) (k := 13) (v := .int v_6) G0 hw in_X12_law_X12 rfl hr_35 (by decide) (by decide +kernel) rfl dX12_law_3 ?_
  refine lv_iconst (v := 1) G0.1 G0.2.1 dX12_law_6 (by decide) ?_
  refine lv_isub G0.1 G0.2.1 dX12_law_7 ?_
  refine lv_topi (fun x_38 ex_38 => ?_)
  first | have tx_38 := ti_sub ex_38 (by omega -splitDisjunctions) (by omega -splitDisjunctions) | skip
  refine py_calli hw (va_runS (As := [.int a, .int (-1), .int x_38]) (rest := []) G0 (c_X12_in l E G L f s.heap.size a (-1) x_38 hG hWF) (va_cwS 3 G0.2.2.2.2 g_X12_law_X12_in_232 rfl rfl rfl (by decide +kernel) ⟨(Nat.le_of_ble_eq_true rfl), (Nat.le_of_ble_eq_true rfl)⟩) (py_preS hw) rfl rfl hl.1 rfl (lv_room (Nat.le_of_ble_eq_true rfl)) dX12_law_8 ⟨(Nat.le_of_ble_eq_true rfl), (Nat.le_of_ble_eq_true rfl)⟩) (fun r_43 L_39 f_40 H_41 locs hp_42 hw => ?_)
  obtain ⟨b_46, en_44, en_45, rfl, rfl⟩ := hp_42
  have en_44 : r_43.toInt ≠ 0 → ((-1) : Int) ≤ a.toInt ∧ a.toInt ≤ x_38.toInt := en_44
  have en_45 : r_43.toInt = 0 → a.toInt < ((-1) : Int) ∨ x_38.toInt < a.toInt := en_45
  refine lv_if_ne (tgt := 16) G0.1 G0.2.1 dX12_law_11 (by decide) (fun c_47 => ?_) (fun c_47 => ?_)
  · skip
    have tc_47 := ti_ne c_47
    replace en_44 := en_44 (by omega)
    clear en_45
    refine lv_aload_n G0.1 G0.2.1 dX12_law_16 rfl (lv_at hl 0 rfl) ?_
    refine lv_iload_n G0.1 G0.2.1 dX12_law_17 rfl (lv_at hl 1 rfl) ?_
    refine py_put (C := RX12) (T := TX12) (N := 54) (k := 31) (v := .int a) (fs' := [.int v_1, .ref (G.2 u 1), .int v_2, .int v_3, .int v_4, .int v_5, .ref (G.2 u 6), .ref (G.2 u 7), .ref (G.2 u 8), .ref (G.2 u 9), .ref (G.2 u 10), .ref (G.2 u 11), .ref (G.2 u 12), .int v_6, .int v_7, .ref (G.2 u 15), .ref (G.2 u 16), .ref (G.2 u 17), .ref (G.2 u 18), .int v_8, .int v_9, .ref (G.2 u 21), .ref (G.2 u 22), .ref (G.2 u 23), .int v_10, .int v_11, .ref (G.2 u 26), .ref (G.2 u 27), .ref (G.2 u 28), .int v_12, .long y_13, .int a, .int v_15, .int v_16, .int v_17, .ref (G.2 u 35), .ref (G.2 u 36), .ref (G.2 u 37), .ref (G.2 u 38), .ref (G.2 u 39), .ref (G.2 u 40), .ref (G.2 u 41), .ref (G.2 u 42), .int v_18, .ref (G.2 u 44), .ref (G.2 u 45), .ref (G.2 u 46), .ref (G.2 u 47), .long y_19, .ref (G.2 u 49), .ref (G.2 u 50), .int v_20, .long y_21, .int v_22]) (ty0 := tyX12) G0 hw tyX12_ok nmX12 in_X12_law_X12 rfl hr_35 (by decide) (by decide +kernel) rfl rfl rfl rfl (Nat.le_of_ble_eq_true rfl) rfl dX12_law_18 (fun f_48 H_49 locs h_50 x_51 hw => ?_)
    have hGM := hGM.held hG hWF Tu x_51 (by have z1 := mi_row hr_35 13 rfl; have z2 := mi_row h_50 13 rfl; omega) (by have z1 := mi_row h_50 31 rfl; have z2 := mi_row h_50 13 rfl; omega)
    have hFK := hFK.put hr_35 h_50 31 (by decide) rfl
    have hKP := hKP.upd hWF x_51 Tu (Or.inl (by decide))
    have hWF := wf_upd hWF h_50 x_51 (by rw [Tu]; exact ⟨v_1, v_2, v_3, v_4, v_5, v_6, v_7, v_8, v_9, v_10, v_11, v_12, y_13, a, v_15, v_16, v_17, v_18, y_19, v_20, y_21, v_22, rfl, ⟨by omega, by omega⟩, ⟨by omega, by omega⟩, ⟨by omega, by omega⟩, ⟨by omega, by omega⟩, ⟨by omega, by omega⟩, ⟨by omega, by omega⟩, ⟨by omega, by omega⟩, ⟨by omega, by omega⟩, ⟨by omega, by omega⟩, ⟨by omega, by omega⟩, ⟨by omega, by omega⟩, ⟨by omega, by omega⟩⟩)
    have tq_52 := mi_row h_50 13 rfl
    have tq_53 := mi_row h_50 31 rfl
    refine lv_iconst (v := 1) G0.1 G0.2.1 dX12_law_21 (by decide) ?_
    exact py_iret G0 hr rfl hlk hw ⟨⟨by omega, by omega⟩, hGM, (by first | omega | (intro q; omega)), (by first | omega | (intro q; omega)), hWF, hKP, hFK⟩ dX12_law_22
  · skip
    have tc_47 := ti_eq c_47
    clear en_44
    replace en_45 := en_45 (by omega)
    refine lv_iconst (v := 0) G0.1 G0.2.1 dX12_law_14 (by decide) ?_
    exact py_iret G0 hr rfl hlk hw ⟨⟨by omega, by omega⟩, hGM, (by first | omega | (intro q; omega)), (by first | omega | (intro q; omega)), hWF, hKP, hFK⟩ dX12_law_15

set_option maxHeartbeats 4000000 in
set_option maxRecDepth 100000 in
theorem c_X12_endV (l : Launch) (E : py_E) (G : wf_G) (L : List Nat) (f : py_F) (sz : Nat) (u : Nat) (a : Int32) (hG : GT G) (hWF : WF E G L f) (Tu : G.1 u = 13) : Met l yX12_end w_X12_end ({ frames := 0, cells := 0, slots := 0, locals := 0 }) (py_Pc E [.ref u, .int a] L f sz) (py_Qi E L f sz (fun r L1 f1 => (0 ≤ r.toInt ∧ r.toInt ≤ 1) ∧ (r.toInt ≠ 0 → 0 ≤ a.toInt ∧ a.toInt ≤ mi f u 2 ∧ mi f1 u 2 = a.toInt) ∧ (r.toInt = 0 → (a.toInt < 0 ∨ mi f u 2 < a.toInt) ∧ mi f1 u 2 = mi f u 2) ∧ WF E G L1 f1 ∧ KP G [13] false f f1 ∧ FK [2] f f1 u)) 0 0 (va_A (va_pl L f) sz) := by
  refine Met.ofW (cc := cX12_end) (maxL := 2) (ret := (some .boolean)) (by decide) rfl ?_
  intro p e s m args below meth c s₁ B hml hv
  obtain ⟨rfl, rfl, hw⟩ := py_start hv
  have G0 : CallFix p m c cX12_end 2 s _ w_X12_end RX12 := ⟨B.exec, B.bytes, hml, findClass_of_methodNamed B.named, atoms_spec (ws := w_X12_end) B.pre⟩
  have hr := B.returns
  have hlk := B.notSynchronized
  have kcm1 : (-1 : Int32).toInt = -1 := rfl
  have kc0 : (0 : Int32).toInt = 0 := rfl
  have kc1 : (1 : Int32).toInt = 1 := rfl
  have hl := lv_entry ([.ref u, .int a]) (n := 2) (Nat.le_of_ble_eq_true rfl)
  rw [lg_entry_eq]
  generalize (lg_sl ([.ref u, .int a]) ++ List.replicate (2 - (lg_sl ([.ref u, .int a])).length) Slot.unset).toArray = ls at hl ⊢
  have hl : lv_has ls 2 [(0, .ref u), (1, .int a)] := hl
  have hFK : FK [2] f f u := FK.refl
  have hKP : KP G [13] false f f := KP.refl
  refine lv_iload_n G0.1 G0.2.1 dX12_end_0 rfl (lv_at hl 1 rfl) ?_
  refine lv_if_lt (tgt := 12) G0.1 G0.2.1 dX12_end_1 (by decide) (fun c_1 => ?_) (fun c_1 => ?_)
  · skip
    have tc_1 := ti_lt c_1
    refine lv_iconst (v := 0) G0.1 G0.2.1 dX12_end_12 (by decide) ?_
    exact py_iret G0 hr rfl hlk hw ⟨⟨by omega, by omega⟩, (by first | omega | (intro q; omega)), (by first | omega | (intro q; omega)), hWF, hKP, hFK⟩ dX12_end_13
  · skip
    have tc_1 := ti_nlt c_1
    refine lv_iload_n G0.1 G0.2.1 dX12_end_4 rfl (lv_at hl 1 rfl) ?_
    refine lv_aload_n G0.1 G0.2.1 dX12_end_5 rfl (lv_at hl 0 rfl) ?_
    obtain ⟨v_2, v_3, v_4, v_5, v_6, v_7, v_8, v_9, v_10, v_11, v_12, v_13, y_14, v_15, v_16, v_17, v_18, v_19, y_20, v_21, y_22, v_23, hr_36, b_24, b_25, b_26, b_27, b_28, b_29, b_30, b_31, b_32, b_33, b_34, b_35⟩ := wg_12 hWF Tu
    have tq_37 := mi_row hr_36 2 rfl
    refine py_get (C := RX12) (T := TX12) (N := 54) (k := 2) (v := .int v_3) G0 hw in_X12_end_X12 rfl hr_36 (by decide) (by decide +kernel) rfl dX12_end_6 ?_
    refine lv_icmp_le (tgt := 14) G0.1 G0.2.1 dX12_end_9 (by decide) (fun c_38 => ?_) (fun c_38 => ?_)
    · skip
      have tc_38 := ti_le c_38
      refine lv_aload_n G0.1 G0.2.1 dX12_end_14 rfl (lv_at hl 0 rfl) ?_
      refine lv_iload_n G0.1 G0.2.1 dX12_end_15 rfl (lv_at hl 1 rfl) ?_
      refine py_put (C := RX12) (T := TX12) (N := 54) (k := 2) (v := .int a) (fs' := [.int v_2, .ref (G.2 u 1), .int a, .int v_4, .int v_5, .int v_6, .ref (G.2 u 6), .ref (G.2 u 7), .ref (G.2 u 8), .ref (G.2 u 9), .ref (G.2 u 10), .ref (G.2 u 11), .ref (G.2 u 12), .int v_7, .int v_8, .ref (G.2 u 15), .ref (G.2 u 16), .ref (G.2 u 17), .ref (G.2 u 18), .int v_9, .int v_10, .ref (G.2 u 21), .ref (G.2 u 22), .ref (G.2 u 23), .int v_11, .int v_12, .ref (G.2 u 26), .ref (G.2 u 27), .ref (G.2 u 28), .int v_13, .long y_14, .int v_15, .int v_16, .int v_17, .int v_18, .ref (G.2 u 35), .ref (G.2 u 36), .ref (G.2 u 37), .ref (G.2 u 38), .ref (G.2 u 39), .ref (G.2 u 40), .ref (G.2 u 41), .ref (G.2 u 42), .int v_19, .ref (G.2 u 44), .ref (G.2 u 45), .ref (G.2 u 46), .ref (G.2 u 47), .long y_20, .ref (G.2 u 49), .ref (G.2 u 50), .int v_21, .long y_22, .int v_23]) (ty0 := tyX12) G0 hw tyX12_ok nmX12 in_X12_end_X12 rfl hr_36 (by decide) (by decide +kernel) rfl rfl rfl rfl (Nat.le_of_ble_eq_true rfl) rfl dX12_end_16 (fun f_39 H_40 locs h_41 x_42 hw => ?_)
      have hFK := hFK.put hr_36 h_41 2 (by decide) rfl
      have hKP := hKP.upd hWF x_42 Tu (Or.inl (by decide))
      have hWF := wf_upd hWF h_41 x_42 (by rw [Tu]; exact ⟨v_2, a, v_4, v_5, v_6, v_7, v_8, v_9, v_10, v_11, v_12, v_13, y_14, v_15, v_16, v_17, v_18, v_19, y_20, v_21, y_22, v_23, rfl, ⟨by omega, by omega⟩, ⟨by omega, by omega⟩, ⟨by omega, by omega⟩, ⟨by omega, by omega⟩, ⟨by omega, by omega⟩, ⟨by omega, by omega⟩, ⟨by omega, by omega⟩, ⟨by omega, by omega⟩, ⟨by omega, by omega⟩, ⟨by omega, by omega⟩, ⟨by omega, by omega⟩, ⟨by omega, by omega⟩⟩)
      have tq_43 := mi_row h_41 2 rfl
      refine lv_iconst (v := 1) G0.1 G0.2.1 dX12_end_19 (by decide) ?_
      exact py_iret G0 hr rfl hlk hw ⟨⟨by omega, by omega⟩, (by first | omega | (intro q; omega)), (by first | omega | (intro q; omega)), hWF, hKP, hFK⟩ dX12_end_20
    · skip
      have tc_38 := ti_nle c_38
      refine lv_iconst (v := 0) G0.1 G0.2.1 dX12_end_12 (by decide) ?_
      exact py_iret G0 hr rfl hlk hw ⟨⟨by omega, by omega⟩, (by first | omega | (intro q; omega)), (by first | omega | (intro q; omega)), hWF, hKP, hFK⟩ dX12_end_13
