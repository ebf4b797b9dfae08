def rs_nn (g : rs_B) (n : Int) : Prop := ∀ p : Int, 0 ≤ p → p < n → 0 ≤ rs_v g n p
theorem dX12_atEnd_0 : decode cX12_atEnd 0 = .ok (.aload_n 0, 1) := by decide +kernel
theorem dX12_atEnd_1 : decode cX12_atEnd 1 = .ok (.getfield 134, 3) := by decide +kernel
theorem dX12_atEnd_4 : decode cX12_atEnd 4 = .ok (.iconst (-1), 1) := by decide +kernel
theorem dX12_atEnd_5 : decode cX12_atEnd 5 = .ok (.if_icmp .ne 15, 3) := by decide +kernel
theorem dX12_atEnd_8 : decode cX12_atEnd 8 = .ok (.aload_n 0, 1) := by decide +kernel
theorem dX12_atEnd_9 : decode cX12_atEnd 9 = .ok (.invokevirtual 146, 3) := by decide +kernel
theorem dX12_atEnd_12 : decode cX12_atEnd 12 = .ok (.iconst (-1), 1) := by decide +kernel
theorem dX12_atEnd_13 : decode cX12_atEnd 13 = .ok (.if_icmp .eq 7, 3) := by decide +kernel
theorem dX12_atEnd_16 : decode cX12_atEnd 16 = .ok (.aload_n 0, 1) := by decide +kernel
theorem dX12_atEnd_17 : decode cX12_atEnd 17 = .ok (.invokevirtual 143, 3) := by decide +kernel
theorem dX12_atEnd_20 : decode cX12_atEnd 20 = .ok (.aload_n 0, 1) := by decide +kernel
theorem dX12_atEnd_21 : decode cX12_atEnd 21 = .ok (.getfield 134, 3) := by decide +kernel
theorem dX12_atEnd_24 : decode cX12_atEnd 24 = .ok (.ireturn, 1) := by decide +kernel
theorem dX12_open_0 : decode cX12_open 0 = .ok (.aload_n 0, 1) := by decide +kernel
theorem dX12_open_1 : decode cX12_open 1 = .ok (.iload_n 1, 1) := by decide +kernel
theorem dX12_open_2 : decode cX12_open 2 = .ok (.putfield 137, 3) := by decide +kernel
theorem dX12_open_5 : decode cX12_open 5 = .ok (.aload_n 0, 1) := by decide +kernel
theorem dX12_open_6 : decode cX12_open 6 = .ok (.iconst 0, 1) := by decide +kernel
theorem dX12_open_7 : decode cX12_open 7 = .ok (.putfield 127, 3) := by decide +kernel
theorem dX12_open_10 : decode cX12_open 10 = .ok (.aload_n 0, 1) := by decide +kernel
theorem dX12_open_11 : decode cX12_open 11 = .ok (.iconst (-1), 1) := by decide +kernel
theorem dX12_open_12 : decode cX12_open 12 = .ok (.putfield 134, 3) := by decide +kernel
theorem dX12_open_15 : decode cX12_open 15 = .ok (.aload_n 0, 1) := by decide +kernel
theorem dX12_open_16 : decode cX12_open 16 = .ok (.iconst 0, 1) := by decide +kernel
theorem dX12_open_17 : decode cX12_open 17 = .ok (.putfield 140, 3) := by decide +kernel
theorem dX12_open_20 : decode cX12_open 20 = .ok (.aload_n 0, 1) := by decide +kernel
theorem dX12_open_21 : decode cX12_open 21 = .ok (.getfield 19, 3) := by decide +kernel
theorem dX12_open_24 : decode cX12_open 24 = .ok (.iload_n 1, 1) := by decide +kernel
theorem dX12_open_25 : decode cX12_open 25 = .ok (.iconst 0, 1) := by decide +kernel
theorem dX12_open_26 : decode cX12_open 26 = .ok (.iastore, 1) := by decide +kernel
theorem dX12_open_27 : decode cX12_open 27 = .ok (.aload_n 0, 1) := by decide +kernel
theorem dX12_open_28 : decode cX12_open 28 = .ok (.getfield 22, 3) := by decide +kernel
theorem dX12_open_31 : decode cX12_open 31 = .ok (.iload_n 1, 1) := by decide +kernel
theorem dX12_open_32 : decode cX12_open 32 = .ok (.iconst 0, 1) := by decide +kernel
theorem dX12_open_33 : decode cX12_open 33 = .ok (.iastore, 1) := by decide +kernel
theorem dX12_open_34 : decode cX12_open 34 = .ok (.return_, 1) := by decide +kernel
theorem dX12_readLaw_0 : decode cX12_readLaw 0 = .ok (.aload_n 0, 1) := by decide +kernel
theorem dX12_readLaw_1 : decode cX12_readLaw 1 = .ok (.iload_n 1, 1) := by decide +kernel
theorem dX12_readLaw_2 : decode cX12_readLaw 2 = .ok (.invokevirtual 198, 3) := by decide +kernel
theorem dX12_readLaw_5 : decode cX12_readLaw 5 = .ok (.aload_n 0, 1) := by decide +kernel
theorem dX12_readLaw_6 : decode cX12_readLaw 6 = .ok (.invokevirtual 201, 3) := by decide +kernel
theorem dX12_readLaw_9 : decode cX12_readLaw 9 = .ok (.aload_n 0, 1) := by decide +kernel
theorem dX12_readLaw_10 : decode cX12_readLaw 10 = .ok (.getfield 134, 3) := by decide +kernel
theorem dX12_readLaw_13 : decode cX12_readLaw 13 = .ok (.iconst (-1), 1) := by decide +kernel
theorem dX12_readLaw_14 : decode cX12_readLaw 14 = .ok (.if_icmp .ne 29, 3) := by decide +kernel
theorem dX12_readLaw_17 : decode cX12_readLaw 17 = .ok (.aload_n 0, 1) := by decide +kernel
theorem dX12_readLaw_18 : decode cX12_readLaw 18 = .ok (.invokevirtual 146, 3) := by decide +kernel
theorem dX12_readLaw_21 : decode cX12_readLaw 21 = .ok (.bipush 59, 2) := by decide +kernel
theorem dX12_readLaw_23 : decode cX12_readLaw 23 = .ok (.if_icmp .ne 20, 3) := by decide +kernel
theorem dX12_readLaw_26 : decode cX12_readLaw 26 = .ok (.aload_n 0, 1) := by decide +kernel
theorem dX12_readLaw_27 : decode cX12_readLaw 27 = .ok (.dup, 1) := by decide +kernel
theorem dX12_readLaw_28 : decode cX12_readLaw 28 = .ok (.getfield 127, 3) := by decide +kernel
theorem dX12_readLaw_31 : decode cX12_readLaw 31 = .ok (.iconst 1, 1) := by decide +kernel
theorem dX12_readLaw_32 : decode cX12_readLaw 32 = .ok (.iadd, 1) := by decide +kernel
theorem dX12_readLaw_33 : decode cX12_readLaw 33 = .ok (.putfield 127, 3) := by decide +kernel
theorem dX12_readLaw_36 : decode cX12_readLaw 36 = .ok (.aload_n 0, 1) := by decide +kernel
theorem dX12_readLaw_37 : decode cX12_readLaw 37 = .ok (.invokevirtual 201, 3) := by decide +kernel
theorem dX12_readLaw_40 : decode cX12_readLaw 40 = .ok (.goto (-31), 3) := by decide +kernel
theorem dX12_readLaw_43 : decode cX12_readLaw 43 = .ok (.aload_n 0, 1) := by decide +kernel
theorem dX12_readLaw_44 : decode cX12_readLaw 44 = .ok (.invokevirtual 204, 3) := by decide +kernel
theorem dX12_readLaw_47 : decode cX12_readLaw 47 = .ok (.ireturn, 1) := by decide +kernel
def w_X12_open : List Cond := .code yX12_open cX12_open 2 none :: ([Cond.fieldLink RX12 137 "HeadYearModel" "text" "I", Cond.fieldLink RX12 127 "HeadYearModel" "at" "I", Cond.fieldLink RX12 134 "HeadYearModel" "wrong" "I", Cond.fieldLink RX12 140 "HeadYearModel" "deep" "I", Cond.fieldLink RX12 19 "HeadYearModel" "codes" "[I", Cond.fieldLink RX12 22 "HeadYearModel" "clauses" "[I"] ++ (u_ws RX12 TX12 54 ++ ([])))
theorem in_X12_open_X12 : ∀ w ∈ u_ws RX12 TX12 54, w ∈ w_X12_open := fun _ h => List.mem_cons_of_mem _ (List.mem_append_right _ (List.mem_append_left _ h))
set_option maxHeartbeats 4000000 in
set_option maxRecDepth 100000 in
theorem c_X12_open (l : Launch) (E : py_E) (G : wf_G) (L : List Nat) (f : py_F) (sz : Nat) (u : Nat) (a : Int32) (hG : GT G) (hWF : WF E G L f) (Tu : G.1 u = 13) (Ba : (0 ≤ a.toInt ∧ a.toInt ≤ 4)) : Met l yX12_open w_X12_open ({ frames := 0, cells := 0, slots := 0, locals := 0 }) (py_Pc E [.ref u, .int a] L f sz) (py_Qv E L f sz (fun L1 f1 => (mi f1 u 14 = a.toInt ∧ mi f1 u 3 = 0 ∧ mi f1 u 4 = -1 ∧ mi f1 u 5 = 0) ∧ (cdv f1 G u = 0) ∧ (clv f1 G u = 0) ∧ (AX f f1 (G.2 u 9) a.toInt) ∧ WF E G L1 f1 ∧ KP G [43, 44, 13] false f f1 ∧ FK [3, 4, 5, 14] f f1 u)) 0 0 (va_A (va_pl L f) sz) := by
  refine Met.ofW (cc := cX12_open) (maxL := 2) (ret := none) (by decide) rfl ?_
  intro p e s m args below meth c s₁ B hml hv
  obtain ⟨rfl, rfl, hw⟩ := py_start hv
  have G0 : CallFix p m c cX12_open 2 s _ w_X12_open RX12 := ⟨B.exec, B.bytes, hml, findClass_of_methodNamed B.named, atoms_spec (ws := w_X12_open) B.pre⟩
  have hr := B.returns
  have hlk := B.notSynchronized
  have kcm1 : (-1 : Int32).toInt = -1 := rfl
  have kc0 : (0 : Int32).toInt = 0 := rfl
  have kc1 : (1 : Int32).toInt = 1 := rfl
  have hl := lv_entry ([.ref u, .int a]) (n := 2) (Nat.le_of_ble_eq_true rfl)
  rw [lg_entry_eq]
  generalize (lg_sl ([.ref u, .int a]) ++ List.replicate (2 - (lg_sl ([.ref u, .int a])).length) Slot.unset).toArray = ls at hl ⊢
  have hl : lv_has ls 2 [(0, .ref u), (1, .int a)] := hl
  have hFK : FK [3, 4, 5, 14] f f u := FK.refl
  have hKP : KP G [43, 44, 13] false f f := KP.refl
  have hX9 : AX f f (G.2 u 9) a.toInt := AX.refl
  refine lv_aload_n G0.1 G0.2.1 dX12_open_0 rfl (lv_at hl 0 rfl) ?_
  refine lv_iload_n G0.1 G0.2.1 dX12_open_1 rfl (lv_at hl 1 rfl) ?_
  obtain ⟨v_1, v_2, v_3, v_4, v_5, v_6, v_7, v_8, v_9, v_10, v_11, v_12, y_13, v_14, v_15, v_16, v_17, v_18, y_19, v_20, y_21, v_22, hr_35, b_23, b_24, b_25, b_26, b_27, b_28, b_29, b_30, b_31, b_32, b_33, b_34⟩ := wg_12 hWF Tu
  have tq_36 := mi_row hr_35 2 rfl
  have tq_37 := mi_row hr_35 3 rfl
  have bv_3 := wf_free v_3
  have tq_38 := mi_row hr_35 4 rfl
  have bv_4 := wf_free v_4
  have tq_39 := mi_row hr_35 5 rfl
  have bv_5 := wf_free v_5
  have tq_40 := mi_row hr_35 14 rfl
  refine py_put (C := RX12) (T := TX12) (N := 54) (k := 14) (v := .int a) (fs' := [.int v_1, .ref (G.2 u 1), .int v_2, .int v_3, .int v_4, .int v_5, .ref (G.2 u 6), .ref (G.2 u 7), .ref (G.2 u 8), .ref (G.2 u 9), .ref (G.2 u 10), .ref (G.2 u 11), .ref (G.2 u 12), .int v_6, .int a, .ref (G.2 u 15), .ref (G.2 u 16), .ref (G.2 u 17), .ref (G.2 u 18), .int v_8, .int v_9, .ref (G.2 u 21), .ref (G.2 u 22), .ref (G.2 u 23), .int v_10, .int v_11, .ref (G.2 u 26), .ref (G.2 u 27), .ref (G.2 u 28), .int v_12, .long y_13, .int v_14, .int v_15, .int v_16, .int v_17, .ref (G.2 u 35), .ref (G.2 u 36), .ref (G.2 u 37), .ref (G.2 u 38), .ref (G.2 u 39), .ref (G.2 u 40), .ref (G.2 u 41), .ref (G.2 u 42), .int v_18, .ref (G.2 u 44), .ref (G.2 u 45), .ref (G.2 u 46), .ref (G.2 u 47), .long y_19, .ref (G.2 u 49), .ref (G.2 u 50), .int v_20, .long y_21, .int v_22]) (ty0 := tyX12) G0 hw tyX12_ok nmX12 in_X12_open_X12 rfl hr_35 (by decide) (by decide +kernel) rfl rfl rfl rfl (Nat.le_of_ble_eq_true rfl) rfl dX12_open_2 (fun f_41 H_42 locs h_43 x_44 hw => ?_)
  have hX9 := hX9.same ((x_44 _ (hWF _ (by rw [wt12_9 hG Tu]; decide)).1 (wf_ne (wt12_9 hG Tu) Tu (by decide))).2)
  have hFK := hFK.put hr_35 h_43 14 (by decide) rfl
  have hKP := hKP.upd hWF x_44 Tu (Or.inl (by decide))
  have hWF := wf_upd hWF h_43 x_44 (by rw [Tu]; exact ⟨v_1, v_2, v_3, v_4, v_5, v_6, a, v_8, v_9, v_10, v_11, v_12, y_13, v_14, v_15, v_16, v_17, v_18, y_19, v_20, y_21, v_22, rfl, ⟨by omega, by omega⟩, ⟨by omega, by omega⟩, ⟨by omega, by omega⟩, ⟨by omega, by omega⟩, ⟨by omega, by omega⟩, ⟨by omega, by omega⟩, ⟨by omega, by omega⟩, ⟨by omega, by omega⟩, ⟨by omega, by omega⟩, ⟨by omega, by omega⟩, ⟨by omega, by omega⟩, ⟨by omega, by omega⟩⟩)
  have tq_45 := mi_row h_43 2 rfl
  have tq_46 := mi_row h_43 3 rfl
  have bv_3 := wf_free v_3
  have tq_47 := mi_row h_43 4 rfl
  have bv_4 := wf_free v_4
  have tq_48 := mi_row h_43 5 rfl
  have bv_5 := wf_free v_5
  have tq_49 := mi_row h_43 14 rfl
  refine lv_aload_n G0.1 G0.2.1 dX12_open_5 rfl (lv_at hl 0 rfl) ?_
  refine lv_iconst (v := 0) G0.1 G0.2.1 dX12_open_6 (by decide) ?_
  refine py_put (C := RX12) (T := TX12) (N := 54) (k := 3) (v := .int 0) (fs' := [.int v_1, .ref (G.2 u 1), .int v_2, .int 0, .int v_4, .int v_5, .ref (G.2 u 6), .ref (G.2 u 7), .ref (G.2 u 8), .ref (G.2 u 9), .ref (G.2 u 10), .ref (G.2 u 11), .ref (G.2 u 12), .int v_6, .int a, .ref (G.2 u 15), .ref (G.2 u 16), .ref (G.2 u 17), .ref (G.2 u 18), .int v_8, .int v_9, .ref (G.2 u 21), .ref (G.2 u 22), .ref (G.2 u 23), .int v_10, .int v_11, .ref (G.2 u 26), .ref (G.2 u 27), .ref (G.2 u 28), .int v_12, .long y_13, .int v_14, .int v_15, .int v_16, .int v_17, .ref (G.2 u 35), .ref (G.2 u 36), .ref (G.2 u 37), .ref (G.2 u 38), .ref (G.2 u 39), .ref (G.2 u 40), .ref (G.2 u 41), .ref (G.2 u 42), .int v_18, .ref (G.2 u 44), .ref (G.2 u 45), .ref (G.2 u 46), .ref (G.2 u 47), .long y_19, .ref (G.2 u 49), .ref (G.2 u 50), .int v_20, .long y_21, .int v_22]) (ty0 := tyX12) G0 hw tyX12_ok nmX12 in_X12_open_X12 rfl h_43 (by decide) (by decide +kernel) rfl rfl rfl rfl (Nat.le_of_ble_eq_true rfl) rfl dX12_open_7 (fun f_50 H_51 locs h_52 x_53 hw => ?_)
  have hX9 := hX9.same ((x_53 _ (hWF _ (by rw [wt12_9 hG Tu]; decide)).1 (wf_ne (wt12_9 hG Tu) Tu (by decide))).2)
  have hFK := hFK.put h_43 h_52 3 (by decide) rfl
  have hKP := hKP.upd hWF x_53 Tu (Or.inl (by decide))
  have hWF := wf_upd hWF h_52 x_53 (by rw [Tu]; exact ⟨v_1, v_2, 0, v_4, v_5, v_6, a, v_8, v_9, v_10, v_11, v_12, y_13, v_14, v_15, v_16, v_17, v_18, y_19, v_20, y_21, v_22, rfl, ⟨by omega, by omega⟩, ⟨by omega, by omega⟩, ⟨by omega, by omega⟩, ⟨by omega, by omega⟩, ⟨by omega, by omega⟩, ⟨by omega, by omega⟩, ⟨by omega, by omega⟩, ⟨by omega, by omega⟩, ⟨by omega, by omega⟩, ⟨by omega, by omega⟩, ⟨by omega, by omega⟩, ⟨by omega, by omega⟩⟩)
  have tq_54 := mi_row h_52 2 rfl
  have tq_55 := mi_row h_52 3 rfl
  have tq_56 := mi_row h_52 4 rfl
  have bv_4 := wf_free v_4
  have tq_57 := mi_row h_52 5 rfl
  have bv_5 := wf_free v_5
  have tq_58 := mi_row h_52 14 rfl
  refine lv_aload_n G0.1 G0.2.1 dX12_open_10 rfl (lv_at hl 0 rfl) ?_
  refine lv_iconst (v := (-1)) G0.1 G0.2.1 dX12_open_11 (by decide) ?_
  refine py_put (C := RX12) (T := TX12) (N := 54) (k := 4) (v := .int (-1)) (fs' := [.int v_1, .ref (G.2 u 1), .int v_2, .int 0, .int (-1), .int v_5, .ref (G.2 u 6), .ref (G.2 u 7), .ref (G.2 u 8), .ref (G.2 u 9), .ref (G.2 u 10), .ref (G.2 u 11), .ref (G.2 u 12), .int v_6, .int a, .ref (G.2 u 15), .ref (G.2 u 16), .ref (G.2 u 17), .ref (G.2 u 18), .int v_8, .int v_9, .ref (G.2 u 21), .ref (G.2 u 22), .ref (G.2 u 23), .int v_10, .int v_11, .ref (G.2 u 26), .ref (G.2 u 27), .ref (G.2 u 28), .int v_12, .long y_13, .int v_14, .int v_15, .int v_16, .int v_17, .ref (G.2 u 35), .ref (G.2 u 36), .ref (G.2 u 37), .ref (G.2 u 38), .ref (G.2 u 39), .ref (G.2 u 40), .ref (G.2 u 41), .ref (G.2 u 42), .int v_18, .ref (G.2 u 44), .ref (G.2 u 45), .ref (G.2 u 46), .ref (G.2 u 47), .long y_19, .ref (G.2 u 49), .ref (G.2 u 50), .int v_20, .long y_21, .int v_22]) (ty0 := tyX12) G0 hw tyX12_ok nmX12 in_X12_open_X12 rfl h_52 (by decide) (by decide +kernel) rfl rfl rfl rfl (Nat.le_of_ble_eq_true rfl) rfl dX12_open_12 (fun f_59 H_60 locs h_61 x_62 hw => ?_)
  have hX9 := hX9.same ((x_62 _ (hWF _ (by rw [wt12_9 hG Tu]; decide)).1 (wf_ne (wt12_9 hG Tu) Tu (by decide))).2)
  have hFK := hFK.put h_52 h_61 4 (by decide) rfl
  have hKP := hKP.upd hWF x_62 Tu (Or.inl (by decide))
  have hWF := wf_upd hWF h_61 x_62 (by rw [Tu]; exact ⟨v_1, v_2, 0, (-1), v_5, v_6, a, v_8, v_9, v_10, v_11, v_12, y_13, v_14, v_15, v_16, v_17, v_18, y_19, v_20, y_21, v_22, rfl, ⟨by omega, by omega⟩, ⟨by omega, by omega⟩, ⟨by omega, by omega⟩, ⟨by omega, by omega⟩, ⟨by omega, by omega⟩, ⟨by omega, by omega⟩, ⟨by omega, by omega⟩, ⟨by omega, by omega⟩, ⟨by omega, by omega⟩, ⟨by omega, by omega⟩, ⟨by omega, by omega⟩, ⟨by omega, by omega⟩⟩)
  have tq_63 := mi_row h_61 2 rfl
  have tq_64 := mi_row h_61 3 rfl
  have tq_65 := mi_row h_61 4 rfl
  have tq_66 := mi_row h_61 5 rfl
  have bv_5 := wf_free v_5
  have tq_67 := mi_row h_61 14 rfl
  refine lv_aload_n G0.1 G0.2.1 dX12_open_15 rfl (lv_at hl 0 rfl) ?_
  refine lv_iconst (v := 0) G0.1 G0.2.1 dX12_open_16 (by decide) ?_
  refine py_put (C := RX12) (T := TX12) (N := 54) (k := 5) (v := .int 0) (fs' := [.int v_1, .ref (G.2 u 1), .int v_2, .int 0, .int (-1), .int 0, .ref (G.2 u 6), .ref (G.2 u 7), .ref (G.2 u 8), .ref (G.2 u 9), .ref (G.2 u 10), .ref (G.2 u 11), .ref (G.2 u 12), .int v_6, .int a, .ref (G.2 u 15), .ref (G.2 u 16), .ref (G.2 u 17), .ref (G.2 u 18), .int v_8, .int v_9, .ref (G.2 u 21), .ref (G.2 u 22), .ref (G.2 u 23), .int v_10, .int v_11, .ref (G.2 u 26), .ref (G.2 u 27), .ref (G.2 u 28), .int v_12, .long y_13, .int v_14, .int v_15, .int v_16, .int v_17, .ref (G.2 u 35), .ref (G.2 u 36), .ref (G.2 u 37), .ref (G.2 u 38), .ref (G.2 u 39), .ref (G.2 u 40), .ref (G.2 u 41), .ref (G.2 u 42), .int v_18, .ref (G.2 u 44), .ref (G.2 u 45), .ref (G.2 u 46), .ref (G.2 u 47), .long y_19, .ref (G.2 u 49), .ref (G.2 u 50), .int v_20, .long y_21, .int v_22]) (ty0 := tyX12) G0 hw tyX12_ok nmX12 in_X12_open_X12 rfl h_61 (by decide) (by decide +kernel) rfl rfl rfl rfl (Nat.le_of_ble_eq_true rfl) rfl dX12_open_17 (fun f_68 H_69 locs h_70 x_71 hw => ?_)
  have hX9 := hX9.same ((x_71 _ (hWF _ (by rw [wt12_9 hG Tu]; decide)).1 (wf_ne (wt12_9 hG Tu) Tu (by decide))).2)
  have hFK := hFK.put h_61 h_70 5 (by decide) rfl
  have hKP := hKP.upd hWF x_71 Tu (Or.inl (by decide))
  have hWF := wf_upd hWF h_70 x_71 (by rw [Tu]; exact ⟨v_1, v_2, 0, (-1), 0, v_6, a, v_8, v_9, v_10, v_11, v_12, y_13, v_14, v_15, v_16, v_17, v_18, y_19, v_20, y_21, v_22, rfl, ⟨by omega, by omega⟩, ⟨by omega, by omega⟩, ⟨by omega, by omega⟩, ⟨by omega, by omega⟩, ⟨by omega, by omega⟩, ⟨by omega, by omega⟩, ⟨by omega, by omega⟩, ⟨by omega, by omega⟩, ⟨by omega, by omega⟩, ⟨by omega, by omega⟩, ⟨by omega, by omega⟩, ⟨by omega, by omega⟩⟩)
  have tq_72 := mi_row h_70 2 rfl
  have tq_73 := mi_row h_70 3 rfl
  have tq_74 := mi_row h_70 4 rfl
  have tq_75 := mi_row h_70 5 rfl
  have tq_76 := mi_row h_70 14 rfl
  refine lv_aload_n G0.1 G0.2.1 dX12_open_20 rfl (lv_at hl 0 rfl) ?_
  refine py_get (C := RX12) (T := TX12) (N := 54) (k := 8) (v := .ref (G.2 u 8)) G0 hw in_X12_open_X12 rfl h_70 (by decide) (by decide +kernel) rfl dX12_open_21 ?_
  refine lv_iload_n G0.1 G0.2.1 dX12_open_24 rfl (lv_at hl 1 rfl) ?_
  refine lv_iconst (v := 0) G0.1 G0.2.1 dX12_open_25 (by decide) ?_
  obtain ⟨g_77, ha_78, hi_79⟩ := wf_arr (n := 5) (lo := 0) (hi := 340) hWF (wt12_8 hG Tu) (by decide) (fun _ => rfl)
  have rg_80 : vp_in a 5 := ti_in (by omega) (by omega)
  refine py_iast G0 hw ha_78 rg_80 dX12_open_26 (fun f_81 H_82 locs h_83 x_84 hw => ?_)
  have hkw : KP G [43] false f_68 f_81 := KP.refl.upd hWF x_84 (wt12_8 hG Tu) (Or.inl (by decide))
  have hX9 := hX9.same ((x_84 _ (hWF _ (by rw [wt12_9 hG Tu]; decide)).1 (wf_ne (wt12_9 hG Tu) (wt12_8 hG Tu) (by decide))).2)
  have hFK := hFK.same ((x_84 _ (hWF _ (by rw [Tu]; decide)).1 (wf_ne Tu (wt12_8 hG Tu) (by decide))).2)
  have hKP := hKP.upd hWF x_84 (wt12_8 hG Tu) (Or.inl (by decide))
  have hi_85 := wf_inu (k := (a : Int32).toNatClampNeg) (x := 0) hi_79 (by omega) (by omega)
  have hWF := wf_upd hWF h_83 x_84 (by rw [(wt12_8 hG Tu)]; exact ⟨_, rfl, hi_85⟩)
  have h_70 := h_70.ext x_84 (py_ne_arr h_70 ha_78)
  have tq_86 := mi_row h_70 2 rfl
  have tq_87 := mi_row h_70 3 rfl
  have tq_88 := mi_row h_70 4 rfl
  have tq_89 := mi_row h_70 5 rfl
  have tq_90 := mi_row h_70 14 rfl
  have hcz : cdv f_81 G u = 0 := by unfold cdv; rw [mi_row h_70 14 rfl]; exact (arz_up ha_78 h_83 (by omega)).1
  refine lv_aload_n G0.1 G0.2.1 dX12_open_27 rfl (lv_at hl 0 rfl) ?_
  refine py_get (C := RX12) (T := TX12) (N := 54) (k := 9) (v := .ref (G.2 u 9)) G0 hw in_X12_open_X12 rfl h_70 (by decide) (by decide +kernel) rfl dX12_open_28 ?_
  refine lv_iload_n G0.1 G0.2.1 dX12_open_31 rfl (lv_at hl 1 rfl) ?_
  refine lv_iconst (v := 0) G0.1 G0.2.1 dX12_open_32 (by decide) ?_
  obtain ⟨g_91, ha_92, hi_93⟩ := wf_arr (n := 5) (lo := 0) (hi := 90) hWF (wt12_9 hG Tu) (by decide) (fun _ => rfl)
  have rg_94 : vp_in a 5 := ti_in (by omega) (by omega)
  refine py_iast G0 hw ha_92 rg_94 dX12_open_33 (fun f_95 H_96 locs h_97 x_98 hw => ?_)
  have hkw : KP G [44] false f_81 f_95 := KP.refl.upd hWF x_98 (wt12_9 hG Tu) (Or.inl (by decide))
  have hFK := hFK.same ((x_98 _ (hWF _ (by rw [Tu]; decide)).1 (wf_ne Tu (wt12_9 hG Tu) (by decide))).2)
  have hKP := hKP.upd hWF x_98 (wt12_9 hG Tu) (Or.inl (by decide))
  have hi_99 := wf_inu (k := (a : Int32).toNatClampNeg) (x := 0) hi_93 (by omega) (by omega)
  have hWF := wf_upd hWF h_97 x_98 (by rw [(wt12_9 hG Tu)]; exact ⟨_, rfl, hi_99⟩)
  have h_70 := h_70.ext x_98 (py_ne_arr h_70 ha_92)
  have tq_100 := mi_row h_70 2 rfl
  have tq_101 := mi_row h_70 3 rfl
  have tq_102 := mi_row h_70 4 rfl
  have tq_103 := mi_row h_70 5 rfl
  have tq_104 := mi_row h_70 14 rfl
  have h_83 := h_83.ext x_98 (wf_ne (wt12_8 hG Tu) (wt12_9 hG Tu) (by decide))
  have hkz : clv f_95 G u = 0 := by unfold clv; rw [mi_row h_70 14 rfl]; exact (arz_up ha_92 h_97 (by omega)).1
  have hcz := (cdv_kp (x_98 _ (hWF _ (by rw [wt12_8 hG Tu]; decide)).1 (wf_ne (wt12_8 hG Tu) (wt12_9 hG Tu) (by decide))).2 (mi_kp (x_98 u (hWF u (by rw [Tu]; decide)).1 (wf_ne Tu (wt12_9 hG Tu) (by decide))).2 14)).trans hcz
  have hX9 := hX9.up ha_92 h_97 (by omega) (by omega)
  exact py_vret G0 hr hlk hw ⟨(by first | omega | (intro q; omega)), hcz, hkz, hX9, hWF, hKP, hFK⟩ dX12_open_34

def w_X12_atEnd : List Cond := .code yX12_atEnd cX12_atEnd 1 (some .int) :: ([Cond.fieldLink RX12 134 "HeadYearModel" "wrong" "I", Cond.methodLink RX12 146 yX12_look, Cond.instanceMethod yX12_look, Cond.selects RX12 yX12_look yX12_look, Cond.initialized RX12, Cond.methodLink RX12 143 yX12_bad, Cond.instanceMethod yX12_bad, Cond.selects RX12 yX12_bad yX12_bad] ++ (u_ws RX12 TX12 54 ++ (w_X12_look ++ (w_X12_bad ++ ([])))))
theorem in_X12_atEnd_X12 : ∀ w ∈ u_ws RX12 TX12 54, w ∈ w_X12_atEnd := fun _ h => List.mem_cons_of_mem _ (List.mem_append_right _ (List.mem_append_left _ h))
theorem gg_X12_atEnd_X12_look : GoodIn w_X12_atEnd w_X12_look := goodIn_sub (fun _ h => List.mem_cons_of_mem _ (List.mem_append_right _ (List.mem_append_right _ (List.mem_append_left _ h)))) (by decide +kernel)
theorem gg_X12_atEnd_X12_bad : GoodIn w_X12_atEnd w_X12_bad := goodIn_sub (fun _ h => List.mem_cons_of_mem _ (List.mem_append_right _ (List.mem_append_right _ (List.mem_append_right _ (List.mem_append_left _ h))))) (by decide +kernel)
theorem g_X12_atEnd_X12_bad_143 : GoodIn w_X12_atEnd (wsV RX12 143 RX12 yX12_bad w_X12_bad) := goodIn_app (goodIn_of _ (by decide +kernel)) gg_X12_atEnd_X12_bad
theorem g_X12_atEnd_X12_look_146 : GoodIn w_X12_atEnd (wsV RX12 146 RX12 yX12_look w_X12_look) := goodIn_app (goodIn_of _ (by decide +kernel)) gg_X12_atEnd_X12_look
set_option maxHeartbeats 4000000 in
set_option maxRecDepth 100000 in
theorem c_X12_atEnd (l : Launch) (E : py_E) (G : wf_G) (L : List Nat) (f : py_F) (sz : Nat) (u : Nat) (gb : rs_B) (nb : Int) (pb : Int) (hG : GT G) (hWF : WF E G L f) (Tu : G.1 u = 13) (hp0 : 0 ≤ mi f u 3) (hp1 : mi f u 4 = -1 → mi f u 3 ≤ mi f u 2 ∧ mi f u 3 = pb) (hp2 : mi f u 2 = nb) (hq0 : AG f (G.2 u 1) gb nb) (hq1 : rs_nn gb nb) : Met l yX12_atEnd w_X12_atEnd ({ frames := 2, cells := 0, slots := 0, locals := 40 }) (py_Pc E [.ref u] L f sz) (py_Qi E L f sz (fun r L1 f1 => (r.toInt = mi f1 u 4) ∧ (mi f1 u 4 = -1 → mi f u 4 = -1) ∧ (mi f u 4 = -1 → (rs_sk gb nb pb < nb ∧ r.toInt = rs_sk gb nb pb) ∨ (nb ≤ rs_sk gb nb pb ∧ r.toInt = -1)) ∧ (mi f u 4 ≠ -1 → r.toInt = mi f u 4) ∧ WF E G L1 f1 ∧ KP G [13] false f f1 ∧ FK [3, 4] f f1 u)) 0 0 (va_A (va_pl L f) sz) := by
  refine Met.ofW (cc := cX12_atEnd) (maxL := 1) (ret := (some .int)) (by decide) rfl ?_
  intro p e s m args below meth c s₁ B hml hv
  obtain ⟨rfl, rfl, hw⟩ := py_start hv
  have G0 : CallFix p m c cX12_atEnd 1 s _ w_X12_atEnd RX12 := ⟨B.exec, B.bytes, hml, findClass_of_methodNamed B.named, atoms_spec (ws := w_X12_atEnd) B.pre⟩
  have hr := B.returns
  have hlk := B.notSynchronized
  have kcm1 : (-1 : Int32).toInt = -1 := rfl
  have kc0 : (0 : Int32).toInt = 0 := rfl
  have kc1 : (1 : Int32).toInt = 1 := rfl
  have hl := lv_entry ([.ref u]) (n := 1) (Nat.le_of_ble_eq_true rfl)
  rw [lg_entry_eq]
  generalize (lg_sl ([.ref u]) ++ List.replicate (1 - (lg_sl ([.ref u])).length) Slot.unset).toArray = ls at hl ⊢
  have hl : lv_has ls 1 [(0, .ref u)] := hl
  have hFK : FK [3, 4] f f u := FK.refl
  have hKP : KP G [13] false f f := KP.refl
  have hMB := hq0
  refine lv_aload_n G0.1 G0.2.1 dX12_atEnd_0 rfl (lv_at hl 0 rfl) ?_
  obtain ⟨v_1, v_2, v_3, v_4, v_5, v_6, v_7, v_8, v_9, v_10, v_11, v_12, y_13, v_14, v_15, v_16, v_17, v_18, y_19, v_20, y_21, v_22, hr_35, b_23, b_24, b_25, b_26, b_27, b_28, b_29, b_30, b_31, b_32, b_33, b_34⟩ := wg_12 hWF Tu
  have tq_36 := mi_row hr_35 2 rfl
  have tq_37 := mi_row hr_35 3 rfl
  have bv_3 := wf_free v_3
  have tq_38 := mi_row hr_35 4 rfl
  have bv_4 := wf_free v_4
  refine py_get (C := RX12) (T := TX12) (N := 54) (k := 4) (v := .int v_4) G0 hw in_X12_atEnd_X12 rfl hr_35 (by decide) (by decide +kernel) rfl dX12_atEnd_1 ?_
  refine lv_iconst (v := (-1)) G0.1 G0.2.1 dX12_atEnd_4 (by decide) ?_
  refine lv_icmp_ne (tgt := 20) G0.1 G0.2.1 dX12_atEnd_5 (by decide) (fun c_39 => ?_) (fun c_39 => ?_)
  · skip
    have tc_39 := ti_ne c_39
    refine lv_aload_n G0.1 G0.2.1 dX12_atEnd_20 rfl (lv_at hl 0 rfl) ?_
    refine py_get (C := RX12) (T := TX12) (N := 54) (k := 4) (v := .int v_4) G0 hw in_X12_atEnd_X12 rfl hr_35 (by decide) (by decide +kernel) rfl dX12_atEnd_21 ?_
    exact py_iret G0 hr rfl hlk hw ⟨(by first | omega | (intro q; omega)), (by first | omega | (intro q; omega)), (by first | omega | (intro q; omega)), (by first | omega | (intro q; omega)), hWF, hKP, hFK⟩ dX12_atEnd_24
  · skip
    have tc_39 := ti_eq c_39
    refine lv_aload_n G0.1 G0.2.1 dX12_atEnd_8 rfl (lv_at hl 0 rfl) ?_
    refine py_calli hw (va_runV (As := []) (rest := []) G0 (c_X12_look l E G L f s.heap.size u gb nb pb hG hWF Tu (show 0 ≤ mi f u 3 ∧ mi f u 3 ≤ mi f u 2 by omega) (show mi f u 3 = pb by omega) (show mi f u 2 = nb ∧ 0 ≤ pb by omega) hMB) (cwV 0 G0.2.2.2.2 g_X12_atEnd_X12_look_146 rfl rfl rfl (by decide +kernel) ⟨(Nat.le_of_ble_eq_true rfl), (Nat.le_of_ble_eq_true rfl)⟩) (py_preV hw (C := RX12) (T := TX12) (N := 54) rfl hr_35) rfl rfl hl.1 rfl (lv_room (Nat.le_of_ble_eq_true rfl)) dX12_atEnd_9 ⟨(Nat.le_of_ble_eq_true rfl), (Nat.le_of_ble_eq_true rfl)⟩) (fun r_44 L_40 f_41 H_42 locs hp_43 hw => ?_)
    obtain ⟨en_45, en_46, en_47, en_48, hWF, kp_49, fk_50⟩ := hp_43
    have hMB := hMB.kp (kp_f kp_49 (wt12_1 hG Tu) (by decide) (by decide) (fun _ => by decide))
    have hFK := hFK.trans fk_50 (by decide)
    have hKP := hKP.trans kp_49 (by decide) (by decide)
    obtain ⟨v_51, hr_52⟩ := fk_3 hWF Tu fk_50 hr_35
    have tq_53 := mi_row hr_52 2 rfl
    have tq_54 := mi_row hr_52 3 rfl
    have bv_51 := wf_free v_51
    have tq_55 := mi_row hr_52 4 rfl
    have bv_4 := wf_free v_4
    have hnn : rs_sk gb nb pb < nb → 0 ≤ rs_v gb nb (rs_sk gb nb pb) := fun hl => hq1 _ (by omega) hl
    have br_44 := wf_free r_44
    refine lv_iconst (v := (-1)) G0.1 G0.2.1 dX12_atEnd_12 (by decide) ?_
    refine lv_icmp_eq (tgt := 20) G0.1 G0.2.1 dX12_atEnd_13 (by decide) (fun c_56 => ?_) (fun c_56 => ?_)
    · skip
      have tc_56 := ti_eq c_56
      clear en_46
      refine lv_aload_n G0.1 G0.2.1 dX12_atEnd_20 rfl (lv_at hl 0 rfl) ?_
      refine py_get (C := RX12) (T := TX12) (N := 54) (k := 4) (v := .int v_4) G0 hw in_X12_atEnd_X12 rfl hr_52 (by decide) (by decide +kernel) rfl dX12_atEnd_21 ?_
      exact py_iret G0 hr rfl hlk hw ⟨(by first | omega | (intro q; omega)), (by first | omega | (intro q; omega)), (by first | omega | (intro q; omega)), (by first | omega | (intro q; omega)), hWF, hKP, hFK⟩ dX12_atEnd_24
    · skip
      have tc_56 := ti_ne c_56
      replace en_46 := en_46 (by omega)
      refine lv_aload_n G0.1 G0.2.1 dX12_atEnd_16 rfl (lv_at hl 0 rfl) ?_
      refine py_callv hw (va_runV (As := []) (rest := []) G0 (c_X12_bad l E G L_40 f_41 H_42.size u hG hWF Tu (show 0 ≤ mi f_41 u 3 by omega)) (cwV 0 G0.2.2.2.2 g_X12_atEnd_X12_bad_143 rfl rfl rfl (by decide +kernel) ⟨(Nat.le_of_ble_eq_true rfl), (Nat.le_of_ble_eq_true rfl)⟩) (py_preV hw (C := RX12) (T := TX12) (N := 54) rfl hr_52) rfl rfl hl.1 rfl (lv_room (Nat.le_of_ble_eq_true rfl)) dX12_atEnd_17 ⟨(Nat.le_of_ble_eq_true rfl), (Nat.le_of_ble_eq_true rfl)⟩) (fun L_57 f_58 H_59 locs hp_60 hw => ?_)
      obtain ⟨en_62, en_63, en_64, hWF, kp_65, fk_66⟩ := hp_60
      have hMB := hMB.kp (kp_f kp_65 (wt12_1 hG Tu) (by decide) (by decide) (fun _ => by decide))
      have hFK := hFK.trans fk_66 (by decide)
      have hKP := hKP.trans kp_65 (by decide) (by decide)
      obtain ⟨v_67, hr_68⟩ := fk_4 hWF Tu fk_66 hr_52
      have tq_69 := mi_row hr_68 2 rfl
      have tq_70 := mi_row hr_68 3 rfl
      have bv_51 := wf_free v_51
      have tq_71 := mi_row hr_68 4 rfl
      have bv_67 := wf_free v_67
      refine lv_aload_n G0.1 G0.2.1 dX12_atEnd_20 rfl (lv_at hl 0 rfl) ?_
      refine py_get (C := RX12) (T := TX12) (N := 54) (k := 4) (v := .int v_67) G0 hw in_X12_atEnd_X12 rfl hr_68 (by decide) (by decide +kernel) rfl dX12_atEnd_21 ?_
      exact py_iret G0 hr rfl hlk hw ⟨(by first | omega | (intro q; omega)), (by first | omega | (intro q; omega)), (by first | omega | (intro q; omega)), (by first | omega | (intro q; omega)), hWF, hKP, hFK⟩ dX12_atEnd_24

def w_X12_readLaw : List Cond := .code yX12_readLaw cX12_readLaw 2 (some .int) :: ([Cond.methodLink RX12 198 yX12_open, Cond.instanceMethod yX12_open, Cond.selects RX12 yX12_open yX12_open, Cond.initialized RX12, Cond.methodLink RX12 201 yX12_clause, Cond.instanceMethod yX12_clause, Cond.selects RX12 yX12_clause yX12_clause, Cond.fieldLink RX12 134 "HeadYearModel" "wrong" "I", Cond.methodLink RX12 204 yX12_atEnd, Cond.instanceMethod yX12_atEnd, Cond.selects RX12 yX12_atEnd yX12_atEnd, Cond.methodLink RX12 146 yX12_look, Cond.instanceMethod yX12_look, Cond.selects RX12 yX12_look yX12_look, Cond.fieldLink RX12 127 "HeadYearModel" "at" "I"] ++ (u_ws RX12 TX12 54 ++ (w_X12_open ++ (w_X12_clause ++ (w_X12_atEnd ++ (w_X12_look ++ ([])))))))
theorem in_X12_readLaw_X12 : ∀ w ∈ u_ws RX12 TX12 54, w ∈ w_X12_readLaw := fun _ h => List.mem_cons_of_mem _ (List.mem_append_right _ (List.mem_append_left _ h))
theorem gg_X12_readLaw_X12_open : GoodIn w_X12_readLaw w_X12_open := goodIn_sub (fun _ h => List.mem_cons_of_mem _ (List.mem_append_right _ (List.mem_append_right _ (List.mem_append_left _ h)))) (by decide +kernel)
theorem gg_X12_readLaw_X12_clause : GoodIn w_X12_readLaw w_X12_clause := goodIn_sub (fun _ h => List.mem_cons_of_mem _ (List.mem_append_right _ (List.mem_append_right _ (List.mem_append_right _ (List.mem_append_left _ h))))) (by decide +kernel)
theorem gg_X12_readLaw_X12_atEnd : GoodIn w_X12_readLaw w_X12_atEnd := goodIn_sub (fun _ h => List.mem_cons_of_mem _ (List.mem_append_right _ (List.mem_append_right _ (List.mem_append_right _ (List.mem_append_right _ (List.mem_append_left _ h)))))) (by decide +kernel)
theorem gg_X12_readLaw_X12_look : GoodIn w_X12_readLaw w_X12_look := goodIn_sub (fun _ h => List.mem_cons_of_mem _ (List.mem_append_right _ (List.mem_append_right _ (List.mem_append_right _ (List.mem_append_right _ (List.mem_append_right _ (List.mem_append_left _ h))))))) (by decide +kernel)
theorem g_X12_readLaw_X12_atEnd_204 : GoodIn w_X12_readLaw (wsV RX12 204 RX12 yX12_atEnd w_X12_atEnd) := goodIn_app (goodIn_of _ (by decide +kernel)) gg_X12_readLaw_X12_atEnd
theorem g_X12_readLaw_X12_clause_201 : GoodIn w_X12_readLaw (wsV RX12 201 RX12 yX12_clause w_X12_clause) := goodIn_app (goodIn_of _ (by decide +kernel)) gg_X12_readLaw_X12_clause
theorem g_X12_readLaw_X12_look_146 : GoodIn w_X12_readLaw (wsV RX12 146 RX12 yX12_look w_X12_look) := goodIn_app (goodIn_of _ (by decide +kernel)) gg_X12_readLaw_X12_look
theorem g_X12_readLaw_X12_open_198 : GoodIn w_X12_readLaw (wsV RX12 198 RX12 yX12_open w_X12_open) := goodIn_app (goodIn_of _ (by decide +kernel)) gg_X12_readLaw_X12_open
theorem fk_3_4_5_14 {E : py_E} {G : wf_G} {L L1 : List Nat} {f f1 : py_F} {m : Nat} (hWF : WF E G L1 f1) (Tm : G.1 m = 13) (h : FK [3, 4, 5, 14] f f1 m) {v0 : Int32} {v2 : Int32} {v3 : Int32} {v4 : Int32} {v5 : Int32} {v13 : Int32} {v14 : Int32} {v19 : Int32} {v20 : Int32} {v24 : Int32} {v25 : Int32} {v29 : Int32} {v30 : Int64} {v31 : Int32} {v32 : Int32} {v33 : Int32} {v34 : Int32} {v43 : Int32} {v48 : Int64} {v51 : Int32} {v52 : Int64} {v53 : Int32} (hr : py_at L f m (.inr (12, [.int v0, .ref (G.2 m 1), .int v2, .int v3, .int v4, .int v5, .ref (G.2 m 6), .ref (G.2 m 7), .ref (G.2 m 8), .ref (G.2 m 9), .ref (G.2 m 10), .ref (G.2 m 11), .ref (G.2 m 12), .int v13, .int v14, .ref (G.2 m 15), .ref (G.2 m 16), .ref (G.2 m 17), .ref (G.2 m 18), .int v19, .int v20, .ref (G.2 m 21), .ref (G.2 m 22), .ref (G.2 m 23), .int v24, .int v25, .ref (G.2 m 26), .ref (G.2 m 27), .ref (G.2 m 28), .int v29, .long v30, .int v31, .int v32, .int v33, .int v34, .ref (G.2 m 35), .ref (G.2 m 36), .ref (G.2 m 37), .ref (G.2 m 38), .ref (G.2 m 39), .ref (G.2 m 40), .ref (G.2 m 41), .ref (G.2 m 42), .int v43, .ref (G.2 m 44), .ref (G.2 m 45), .ref (G.2 m 46), .ref (G.2 m 47), .long v48, .ref (G.2 m 49), .ref (G.2 m 50), .int v51, .long v52, .int v53]))) : ∃ (w3 : Int32) (w4 : Int32) (w5 : Int32) (w14 : Int32), py_at L1 f1 m (.inr (12, [.int v0, .ref (G.2 m 1), .int v2, .int w3, .int w4, .int w5, .ref (G.2 m 6), .ref (G.2 m 7), .ref (G.2 m 8), .ref (G.2 m 9), .ref (G.2 m 10), .ref (G.2 m 11), .ref (G.2 m 12), .int v13, .int w14, .ref (G.2 m 15), .ref (G.2 m 16), .ref (G.2 m 17), .ref (G.2 m 18), .int v19, .int v20, .ref (G.2 m 21), .ref (G.2 m 22), .ref (G.2 m 23), .int v24, .int v25, .ref (G.2 m 26), .ref (G.2 m 27), .ref (G.2 m 28), .int v29, .long v30, .int v31, .int v32, .int v33, .int v34, .ref (G.2 m 35), .ref (G.2 m 36), .ref (G.2 m 37), .ref (G.2 m 38), .ref (G.2 m 39), .ref (G.2 m 40), .ref (G.2 m 41), .ref (G.2 m 42), .int v43, .ref (G.2 m 44), .ref (G.2 m 45), .ref (G.2 m 46), .ref (G.2 m 47), .long v48, .ref (G.2 m 49), .ref (G.2 m 50), .int v51, .long v52, .int v53])) ∧ (0 ≤ w14.toInt ∧ w14.toInt ≤ 4) := by
  obtain ⟨w0, w2, w3, w4, w5, w13, w14, w19, w20, w24, w25, w29, w30, w31, w32, w33, w34, w43, w48, w51, w52, w53, hr1, b2, b13, b14, b19, b20, b24, b25, b29, b31, b43, b51, b53⟩ := wg_12 hWF Tm
  have e0 : w0 = v0 := Value.int.inj (Option.some.inj (show some (Value.int w0) = some (Value.int v0) from fk_i h hr hr1 0 (by decide) (by decide)))
  subst e0
  have e2 : w2 = v2 := Value.int.inj (Option.some.inj (show some (Value.int w2) = some (Value.int v2) from fk_i h hr hr1 2 (by decide) (by decide)))
  subst e2
  have e13 : w13 = v13 := Value.int.inj (Option.some.inj (show some (Value.int w13) = some (Value.int v13) from fk_i h hr hr1 13 (by decide) (by decide)))
  subst e13
  have e19 : w19 = v19 := Value.int.inj (Option.some.inj (show some (Value.int w19) = some (Value.int v19) from fk_i h hr hr1 19 (by decide) (by decide)))
  subst e19
  have e20 : w20 = v20 := Value.int.inj (Option.some.inj (show some (Value.int w20) = some (Value.int v20) from fk_i h hr hr1 20 (by decide) (by decide)))
  subst e20
  have e24 : w24 = v24 := Value.int.inj (Option.some.inj (show some (Value.int w24) = some (Value.int v24) from fk_i h hr hr1 24 (by decide) (by decide)))
  subst e24
  have e25 : w25 = v25 := Value.int.inj (Option.some.inj (show some (Value.int w25) = some (Value.int v25) from fk_i h hr hr1 25 (by decide) (by decide)))
  subst e25
  have e29 : w29 = v29 := Value.int.inj (Option.some.inj (show some (Value.int w29) = some (Value.int v29) from fk_i h hr hr1 29 (by decide) (by decide)))
  subst e29
  have e30 : w30 = v30 := Value.long.inj (Option.some.inj (show some (Value.long w30) = some (Value.long v30) from fk_i h hr hr1 30 (by decide) (by decide)))
  subst e30
  have e31 : w31 = v31 := Value.int.inj (Option.some.inj (show some (Value.int w31) = some (Value.int v31) from fk_i h hr hr1 31 (by decide) (by decide)))
  subst e31
  have e32 : w32 = v32 := Value.int.inj (Option.some.inj (show some (Value.int w32) = some (Value.int v32) from fk_i h hr hr1 32 (by decide) (by decide)))
  subst e32
  have e33 : w33 = v33 := Value.int.inj (Option.some.inj (show some (Value.int w33) = some (Value.int v33) from fk_i h hr hr1 33 (by decide) (by decide)))
  subst e33
  have e34 : w34 = v34 := Value.int.inj (Option.some.inj (show some (Value.int w34) = some (Value.int v34) from fk_i h hr hr1 34 (by decide) (by decide)))
  subst e34
  have e43 : w43 = v43 := Value.int.inj (Option.some.inj (show some (Value.int w43) = some (Value.int v43) from fk_i h hr hr1 43 (by decide) (by decide)))
  subst e43
  have e48 : w48 = v48 := Value.long.inj (Option.some.inj (show some (Value.long w48) = some (Value.long v48) from fk_i h hr hr1 48 (by decide) (by decide)))
  subst e48
  have e51 : w51 = v51 := Value.int.inj (Option.some.inj (show some (Value.int w51) = some (Value.int v51) from fk_i h hr hr1 51 (by decide) (by decide)))
  subst e51
  have e52 : w52 = v52 := Value.long.inj (Option.some.inj (show some (Value.long w52) = some (Value.long v52) from fk_i h hr hr1 52 (by decide) (by decide)))
  subst e52
  have e53 : w53 = v53 := Value.int.inj (Option.some.inj (show some (Value.int w53) = some (Value.int v53) from fk_i h hr hr1 53 (by decide) (by decide)))
  subst e53
  exact ⟨w3, w4, w5, w14, hr1, b14⟩
set_option maxHeartbeats 4000000 in
set_option maxRecDepth 100000 in
theorem c_X12_readLaw (l : Launch) (E : py_E) (G : wf_G) (L : List Nat) (f : py_F) (sz : Nat) (u : Nat) (a : Int32) (gb : rs_B) (nb : Int) (hG : GT G) (hWF : WF E G L f) (Tu : G.1 u = 13) (Ba : (0 ≤ a.toInt ∧ a.toInt ≤ 4)) (hp0 : mi f u 2 = nb) (hq0 : AG f (G.2 u 1) gb nb) (hq1 : rs_nn gb nb) : Met l yX12_readLaw w_X12_readLaw ({ frames := 68, cells := 0, slots := 0, locals := 3702 }) (py_Pc E [.ref u, .int a] L f sz) (py_Qi E L f sz (fun r L1 f1 => (r.toInt = -1 → LV f1 G u a.toInt) ∧ (LB f G u f1 a.toInt) ∧ (r.toInt = rs_law gb nb) ∧ WF E G L1 f1 ∧ KP G [41, 42, 43, 44, 45, 46, 47, 13] false f f1 ∧ FK [3, 4, 5, 14] f f1 u)) 0 0 (va_A (va_pl L f) sz) := by
  refine Met.ofW (cc := cX12_readLaw) (maxL := 2) (ret := (some .int)) (by decide) rfl ?_
  intro p e s m args below meth c s₁ B hml hv
  obtain ⟨rfl, rfl, hw⟩ := py_start hv
  have G0 : CallFix p m c cX12_readLaw 2 s _ w_X12_readLaw RX12 := ⟨B.exec, B.bytes, hml, findClass_of_methodNamed B.named, atoms_spec (ws := w_X12_readLaw) B.pre⟩
  have hr := B.returns
  have hlk := B.notSynchronized
  have kcm1 : (-1 : Int32).toInt = -1 := rfl
  have kc0 : (0 : Int32).toInt = 0 := rfl
  have kc1 : (1 : Int32).toInt = 1 := rfl
  have kc59 : (59 : Int32).toInt = 59 := rfl
  have hl := lv_entry ([.ref u, .int a]) (n := 2) (Nat.le_of_ble_eq_true rfl)
  rw [lg_entry_eq]
  generalize (lg_sl ([.ref u, .int a]) ++ List.replicate (2 - (lg_sl ([.ref u, .int a])).length) Slot.unset).toArray = ls at hl ⊢
  have hl : lv_has ls 2 [(0, .ref u), (1, .int a)] := hl
  have hFK : FK [3, 4, 5, 14] f f u := FK.refl
  have hKP : KP G [41, 42, 43, 44, 45, 46, 47, 13] false f f := KP.refl
  have hLB : LB f G u f a.toInt := LB.refl
  have hMB := hq0
  refine lv_aload_n G0.1 G0.2.1 dX12_readLaw_0 rfl (lv_at hl 0 rfl) ?_
  refine lv_iload_n G0.1 G0.2.1 dX12_readLaw_1 rfl (lv_at hl 1 rfl) ?_
  obtain ⟨v_1, v_2, v_3, v_4, v_5, v_6, v_7, v_8, v_9, v_10, v_11, v_12, y_13, v_14, v_15, v_16, v_17, v_18, y_19, v_20, y_21, v_22, hr_35, b_23, b_24, b_25, b_26, b_27, b_28, b_29, b_30, b_31, b_32, b_33, b_34⟩ := wg_12 hWF Tu
  have tq_36 := mi_row hr_35 2 rfl
  have tq_37 := mi_row hr_35 3 rfl
  have bv_3 := wf_free v_3
  have tq_38 := mi_row hr_35 4 rfl
  have bv_4 := wf_free v_4
  have tq_39 := mi_row hr_35 5 rfl
  have bv_5 := wf_free v_5
  have tq_40 := mi_row hr_35 14 rfl
  refine py_callv hw (va_runV (As := [.int a]) (rest := []) G0 (c_X12_open l E G L f s.heap.size u a hG hWF Tu ⟨by omega, by omega⟩) (cwV 1 G0.2.2.2.2 g_X12_readLaw_X12_open_198 rfl rfl rfl (by decide +kernel) ⟨(Nat.le_of_ble_eq_true rfl), (Nat.le_of_ble_eq_true rfl)⟩) (py_preV hw (C := RX12) (T := TX12) (N := 54) rfl hr_35) rfl rfl hl.1 rfl (lv_room (Nat.le_of_ble_eq_true rfl)) dX12_readLaw_2 ⟨(Nat.le_of_ble_eq_true rfl), (Nat.le_of_ble_eq_true rfl)⟩) (fun L_41 f_42 H_43 locs hp_44 hw => ?_)
  obtain ⟨en_46, en_47, en_48, en_49, hWF, kp_50, fk_51⟩ := hp_44
  have hMB := hMB.kp (kp_f kp_50 (wt12_1 hG Tu) (by decide) (by decide) (fun _ => by decide))
  have hFK := hFK.trans fk_51 (by decide)
  have hKP := hKP.trans kp_50 (by decide) (by decide)
  obtain ⟨v_52, v_53, v_54, v_55, hr_56, b_57⟩ := fk_3_4_5_14 hWF Tu fk_51 hr_35
  have tq_58 := mi_row hr_56 2 rfl
  have tq_59 := mi_row hr_56 3 rfl
  have bv_52 := wf_free v_52
  have tq_60 := mi_row hr_56 4 rfl
  have bv_53 := wf_free v_53
  have tq_61 := mi_row hr_56 5 rfl
  have bv_54 := wf_free v_54
  have tq_62 := mi_row hr_56 14 rfl
  have hLB := hLB.ax (kp_f kp_50 (wt12_6 hG Tu) (by decide) (by decide) (fun _ => by decide)) (kp_f kp_50 (wt12_7 hG Tu) (by decide) (by decide) (fun _ => by decide)) en_49 (kp_f kp_50 (wt12_10 hG Tu) (by decide) (by decide) (fun _ => by decide)) (kp_f kp_50 (wt12_11 hG Tu) (by decide) (by decide) (fun _ => by decide)) (kp_f kp_50 (wt12_12 hG Tu) (by decide) (by decide) (fun _ => by decide))
  have hLC : mi f_42 u 4 = -1 → LC f_42 G u := fun _ => LC.zero (by omega)
  refine lv_aload_n G0.1 G0.2.1 dX12_readLaw_5 rfl (lv_at hl 0 rfl) ?_
  have hWFp := hWF
  have hCLp := hLC (by omega)
  refine py_callv hw (va_runV (As := []) (rest := []) G0 (c_X12_clause l E G L_41 f_42 H_43.size u gb nb 0 hG hWF Tu (show mi f_42 u 4 = -1 ∧ mi f_42 u 5 = 0 ∧ 0 ≤ mi f_42 u 3 ∧ mi f_42 u 3 ≤ mi f_42 u 2 ∧ cdv f_42 G u ≤ mi f_42 u 3 ∧ 2 * clv f_42 G u ≤ mi f_42 u 3 by omega) (show mi f_42 u 2 = nb ∧ mi f_42 u 3 = 0 by omega) hMB) (cwV 0 G0.2.2.2.2 g_X12_readLaw_X12_clause_201 rfl rfl rfl (by decide +kernel) ⟨(Nat.le_of_ble_eq_true rfl), (Nat.le_of_ble_eq_true rfl)⟩) (py_preV hw (C := RX12) (T := TX12) (N := 54) rfl hr_56) rfl rfl hl.1 rfl (lv_room (Nat.le_of_ble_eq_true rfl)) dX12_readLaw_6 ⟨(Nat.le_of_ble_eq_true rfl), (Nat.le_of_ble_eq_true rfl)⟩) (fun L_63 f_64 H_65 locs hp_66 hw => ?_)
  obtain ⟨en_68, en_69, en_70, en_71, en_72, en_73, en_74, hWF, kp_75, fk_76⟩ := hp_66
  have hMB := hMB.kp (kp_f kp_75 (wt12_1 hG Tu) (by decide) (by decide) (fun _ => by decide))
  have hFK := hFK.trans fk_76 (by decide)
  have hKP := hKP.trans kp_75 (by decide) (by decide)
  obtain ⟨v_77, v_78, v_79, hr_80⟩ := fk_3_4_5 hWF Tu fk_76 hr_56
  have tq_81 := mi_row hr_80 2 rfl
  have tq_82 := mi_row hr_80 3 rfl
  have bv_77 := wf_free v_77
  have tq_83 := mi_row hr_80 4 rfl
  have bv_78 := wf_free v_78
  have tq_84 := mi_row hr_80 5 rfl
  have bv_79 := wf_free v_79
  have tq_85 := mi_row hr_80 14 rfl
  have hX : rs_lw gb nb = rs_af (rs_ca gb nb) 4 gb nb (rs_ca gb nb 0) := rs_lp_af (fun hx => by omega)
  have hLB := hLB.cx hG hWFp Tu en_71 (by omega) (by omega) (by omega)
  have hckp := clv_rng hG hWFp Tu (by omega) (by omega)
  have hx14 : mi f_64 u 14 = a.toInt := by have hz := en_71.1.1; omega
  have hLC : mi f_64 u 4 = -1 → LC f_64 G u := fun hw => hCLp.cx en_71 (by omega) (by omega) (fun hy => by first | (have hz := en_72 hw; rw [show mi _ u 14 = a.toInt by omega] at hz ⊢; exact hz) | exact en_72 hw | exact en_72)
  have lo_9 : ∀ n_9 : Nat, ∀ (L_j9 : List Nat) (f_j9 : py_F) (H_j9 : Heap) (locs : List Loc) (ls : Array Slot), (mi f u 2 - mi f_j9 u 3).toNat = n_9 → WF E G L_j9 f_j9 → KP G [41, 42, 43, 44, 45, 46, 47, 13] false f f_j9 → LB f G u f_j9 a.toInt → AG f_j9 (G.2 u 1) gb nb → FK [3, 4, 5, 14] f f_j9 u → (mi f_j9 u 4 = -1 → LC f_j9 G u) → (mi f_j9 u 14 = a.toInt ∧ mi f_j9 u 2 = mi f u 2) → (0 ≤ mi f_j9 u 3 ∧ cdv f_j9 G u ≤ mi f_j9 u 3 ∧ mi f_j9 u 3 ≤ 170) → (mi f_j9 u 4 = -1 → mi f_j9 u 5 = 0 ∧ mi f_j9 u 3 ≤ mi f u 2 ∧ 2 * clv f_j9 G u ≤ mi f_j9 u 3) → (mi f_j9 u 4 = -1 → rs_lw gb nb = rs_af (rs_ca gb nb) 4 gb nb (1, mi f_j9 u 3)) → (mi f_j9 u 4 ≠ -1 → rs_lw gb nb = (0, mi f_j9 u 4)) → py_W E (va_A (va_pl L f) s.heap.size) s L_j9 f_j9 H_j9 locs → lv_has ls 2 [(0, .ref u), (1, .int a)] → W p l e (headSpec w_X12_readLaw ({ frames := 68, cells := 0, slots := 0, locals := 3702 })).room s m ([.ref u, .int a] : List Value).toArray below meth c H_j9 locs 0 0 (MQ below (py_Qi E L f s.heap.size (fun r L1 f1 => (r.toInt = -1 → LV f1 G u a.toInt) ∧ (LB f G u f1 a.toInt) ∧ (r.toInt = rs_law gb nb) ∧ WF E G L1 f1 ∧ KP G [41, 42, 43, 44, 45, 46, 47, 13] false f f1 ∧ FK [3, 4, 5, 14] f f1 u)) ([.ref u, .int a] : List Value).toArray s 0 0 (va_A (va_pl L f) s.heap.size)) (F0 m 9 ls []) := by
    intro n_9
    induction n_9 using Nat.strongRecOn with
    | _ n_9 ih_9 =>
      intro L_j9 f_j9 H_j9 locs ls hn_9 hWF hKP hLB hMB hFK hLC iv0 iv1 iv2 iv3 iv4 hw hl
      refine lv_aload_n G0.1 G0.2.1 dX12_readLaw_9 rfl (lv_at hl 0 rfl) ?_
      obtain ⟨v_86, v_87, v_88, v_89, v_90, v_91, v_92, v_93, v_94, v_95, v_96, v_97, y_98, v_99, v_100, v_101, v_102, v_103, y_104, v_105, y_106, v_107, hr_120, b_108, b_109, b_110, b_111, b_112, b_113, b_114, b_115, b_116, b_117, b_118, b_119⟩ := wg_12 hWF Tu
      have tq_121 := mi_row hr_120 2 rfl
      have tq_122 := mi_row hr_120 3 rfl
      have bv_88 := wf_free v_88
      have tq_123 := mi_row hr_120 4 rfl
      have bv_89 := wf_free v_89
      have tq_124 := mi_row hr_120 5 rfl
      have bv_90 := wf_free v_90
      have tq_125 := mi_row hr_120 14 rfl
      refine py_get (C := RX12) (T := TX12) (N := 54) (k := 4) (v := .int v_89) G0 hw in_X12_readLaw_X12 rfl hr_120 (by decide) (by decide +kernel) rfl dX12_readLaw_10 ?_
      refine lv_iconst (v := (-1)) G0.1 G0.2.1 dX12_readLaw_13 (by decide) ?_
      refine lv_icmp_ne (tgt := 43) G0.1 G0.2.1 dX12_readLaw_14 (by decide) (fun c_126 => ?_) (fun c_126 => ?_)
      · skip
        have tc_126 := ti_ne c_126
        refine lv_aload_n G0.1 G0.2.1 dX12_readLaw_43 rfl (lv_at hl 0 rfl) ?_
        refine py_calli hw (va_runV (As := []) (rest := []) G0 (c_X12_atEnd l E G L_j9 f_j9 H_j9.size u gb nb (rs_sk gb nb (mi f_j9 u 3)) hG hWF Tu (show 0 ≤ mi f_j9 u 3 by omega) (show mi f_j9 u 4 = -1 → mi f_j9 u 3 ≤ mi f_j9 u 2 ∧ mi f_j9 u 3 = (rs_sk gb nb (mi f_j9 u 3)) by omega) (show mi f_j9 u 2 = nb by omega) hMB hq1) (cwV 0 G0.2.2.2.2 g_X12_readLaw_X12_atEnd_204 rfl rfl rfl (by decide +kernel) ⟨(Nat.le_of_ble_eq_true rfl), (Nat.le_of_ble_eq_true rfl)⟩) (py_preV hw (C := RX12) (T := TX12) (N := 54) rfl hr_120) rfl rfl hl.1 rfl (lv_room (Nat.le_of_ble_eq_true rfl)) dX12_readLaw_44 ⟨(Nat.le_of_ble_eq_true rfl), (Nat.le_of_ble_eq_true rfl)⟩) (fun r_131 L_127 f_128 H_129 locs hp_130 hw => ?_)
        obtain ⟨en_132, en_133, en_134, en_135, hWF, kp_136, fk_137⟩ := hp_130
        have hLB := hLB.kp hG Tu kp_136 (LK.of (by decide))
        have hLC := fun hw => (hLC (by first | (have hz := fk_mi fk_137 4 (by decide) (by decide); omega) | omega)).kp hG Tu kp_136 fk_137 (LK.of (by decide)) (by decide)
        have hMB := hMB.kp (kp_f kp_136 (wt12_1 hG Tu) (by decide) (by decide) (fun _ => by decide))
        have cq_138 := cdv_k hG Tu kp_136 fk_137 (by decide)
        have kq_139 := clv_k hG Tu kp_136 fk_137 (by decide)
        have hFK := hFK.trans fk_137 (by decide)
        have hKP := hKP.trans kp_136 (by decide) (by decide)
        obtain ⟨v_140, v_141, hr_142⟩ := fk_3_4 hWF Tu fk_137 hr_120
        have tq_143 := mi_row hr_142 2 rfl
        have tq_144 := mi_row hr_142 3 rfl
        have bv_140 := wf_free v_140
        have tq_145 := mi_row hr_142 4 rfl
        have bv_141 := wf_free v_141
        have tq_146 := mi_row hr_142 5 rfl
        have bv_90 := wf_free v_90
        have tq_147 := mi_row hr_142 14 rfl
        rw [rs_sk_idem] at en_134
        have br_131 := wf_free r_131
        exact py_iret G0 hr rfl hlk hw ⟨(fun hr => by have hz := (hLC (by omega)).lv; rw [show mi _ u 14 = a.toInt by omega] at hz; exact hz), hLB, (by rcases Decidable.em (mi f_j9 u 4 = -1) with hq | hq; (have hy := rs_af_ep (iv3 hq) (rs_co_n4 (by omega)); rcases Int.lt_or_le (rs_sk gb nb (mi f_j9 u 3)) nb with hz | hz; exact rs_law_m1 hy hz (by omega); exact rs_law_me hy hz (by omega)); exact rs_law_m0 (iv4 hq) (by omega)), hWF, hKP, hFK⟩ dX12_readLaw_47
      · skip
        have tc_126 := ti_eq c_126
        refine lv_aload_n G0.1 G0.2.1 dX12_readLaw_17 rfl (lv_at hl 0 rfl) ?_
        refine py_calli hw (va_runV (As := []) (rest := []) G0 (c_X12_look l E G L_j9 f_j9 H_j9.size u gb nb (mi f_j9 u 3) hG hWF Tu (show 0 ≤ mi f_j9 u 3 ∧ mi f_j9 u 3 ≤ mi f_j9 u 2 by omega) (show mi f_j9 u 3 = (mi f_j9 u 3) by omega) (show mi f_j9 u 2 = nb ∧ 0 ≤ (mi f_j9 u 3) by omega) hMB) (cwV 0 G0.2.2.2.2 g_X12_readLaw_X12_look_146 rfl rfl rfl (by decide +kernel) ⟨(Nat.le_of_ble_eq_true rfl), (Nat.le_of_ble_eq_true rfl)⟩) (py_preV hw (C := RX12) (T := TX12) (N := 54) rfl hr_120) rfl rfl hl.1 rfl (lv_room (Nat.le_of_ble_eq_true rfl)) dX12_readLaw_18 ⟨(Nat.le_of_ble_eq_true rfl), (Nat.le_of_ble_eq_true rfl)⟩) (fun r_152 L_148 f_149 H_150 locs hp_151 hw => ?_)
        obtain ⟨en_153, en_154, en_155, en_156, hWF, kp_157, fk_158⟩ := hp_151
        have hLB := hLB.kp hG Tu kp_157 (LK.of (by decide))
        have hLC := fun hw => (hLC (by first | (have hz := fk_mi fk_158 4 (by decide) (by decide); omega) | omega)).kp hG Tu kp_157 fk_158 (LK.of (by decide)) (by decide)
        have hMB := hMB.kp (kp_f kp_157 (wt12_1 hG Tu) (by decide) (by decide) (fun _ => by decide))
        have cq_159 := cdv_k hG Tu kp_157 fk_158 (by decide)
        have kq_160 := clv_k hG Tu kp_157 fk_158 (by decide)
        have hFK := hFK.trans fk_158 (by decide)
        have hKP := hKP.trans kp_157 (by decide) (by decide)
        obtain ⟨v_161, hr_162⟩ := fk_3 hWF Tu fk_158 hr_120
        have tq_163 := mi_row hr_162 2 rfl
        have tq_164 := mi_row hr_162 3 rfl
        have bv_161 := wf_free v_161
        have tq_165 := mi_row hr_162 4 rfl
        have bv_89 := wf_free v_89
        have tq_166 := mi_row hr_162 5 rfl
        have bv_90 := wf_free v_90
        have tq_167 := mi_row hr_162 14 rfl
        have br_152 := wf_free r_152
        refine lv_bipush (v := 59) G0.1 G0.2.1 dX12_readLaw_21 (by decide) ?_
        refine lv_icmp_ne (tgt := 43) G0.1 G0.2.1 dX12_readLaw_23 (by decide) (fun c_168 => ?_) (fun c_168 => ?_)
        · skip
          have tc_168 := ti_ne c_168
          refine lv_aload_n G0.1 G0.2.1 dX12_readLaw_43 rfl (lv_at hl 0 rfl) ?_
          refine py_calli hw (va_runV (As := []) (rest := []) G0 (c_X12_atEnd l E G L_148 f_149 H_150.size u gb nb (rs_sk gb nb (mi f_j9 u 3)) hG hWF Tu (show 0 ≤ mi f_149 u 3 by omega) (show mi f_149 u 4 = -1 → mi f_149 u 3 ≤ mi f_149 u 2 ∧ mi f_149 u 3 = (rs_sk gb nb (mi f_j9 u 3)) by omega) (show mi f_149 u 2 = nb by omega) hMB hq1) (cwV 0 G0.2.2.2.2 g_X12_readLaw_X12_atEnd_204 rfl rfl rfl (by decide +kernel) ⟨(Nat.le_of_ble_eq_true rfl), (Nat.le_of_ble_eq_true rfl)⟩) (py_preV hw (C := RX12) (T := TX12) (N := 54) rfl hr_162) rfl rfl hl.1 rfl (lv_room (Nat.le_of_ble_eq_true rfl)) dX12_readLaw_44 ⟨(Nat.le_of_ble_eq_true rfl), (Nat.le_of_ble_eq_true rfl)⟩) (fun r_173 L_169 f_170 H_171 locs hp_172 hw => ?_)
          obtain ⟨en_174, en_175, en_176, en_177, hWF, kp_178, fk_179⟩ := hp_172
          have hLB := hLB.kp hG Tu kp_178 (LK.of (by decide))
          have hLC := fun hw => (hLC (by first | (have hz := fk_mi fk_179 4 (by decide) (by decide); omega) | omega)).kp hG Tu kp_178 fk_179 (LK.of (by decide)) (by decide)
          have hMB := hMB.kp (kp_f kp_178 (wt12_1 hG Tu) (by decide) (by decide) (fun _ => by decide))
          have cq_180 := cdv_k hG Tu kp_178 fk_179 (by decide)
          have kq_181 := clv_k hG Tu kp_178 fk_179 (by decide)
          have hFK := hFK.trans fk_179 (by decide)
          have hKP := hKP.trans kp_178 (by decide) (by decide)
          obtain ⟨v_182, v_183, hr_184⟩ := fk_3_4 hWF Tu fk_179 hr_162
          have tq_185 := mi_row hr_184 2 rfl
          have tq_186 := mi_row hr_184 3 rfl
          have bv_182 := wf_free v_182
          have tq_187 := mi_row hr_184 4 rfl
          have bv_183 := wf_free v_183
          have tq_188 := mi_row hr_184 5 rfl
          have bv_90 := wf_free v_90
          have tq_189 := mi_row hr_184 14 rfl
          rw [rs_sk_idem] at en_176
          have br_173 := wf_free r_173
          exact py_iret G0 hr rfl hlk hw ⟨(fun hr => by have hz := (hLC (by omega)).lv; rw [show mi _ u 14 = a.toInt by omega] at hz; exact hz), hLB, (by rcases Decidable.em (mi f_j9 u 4 = -1) with hq | hq; (have hy := rs_af_ep (iv3 hq) (rs_co_n4 (by omega)); rcases Int.lt_or_le (rs_sk gb nb (mi f_j9 u 3)) nb with hz | hz; exact rs_law_m1 hy hz (by omega); exact rs_law_me hy hz (by omega)); exact rs_law_m0 (iv4 hq) (by omega)), hWF, hKP, hFK⟩ dX12_readLaw_47
        · skip
          have tc_168 := ti_eq c_168
          replace en_154 := en_154 (by omega)
          refine lv_aload_n G0.1 G0.2.1 dX12_readLaw_26 rfl (lv_at hl 0 rfl) ?_
          refine lv_dup G0.1 G0.2.1 dX12_readLaw_27 rfl ?_
          refine py_get (C := RX12) (T := TX12) (N := 54) (k := 3) (v := .int v_161) G0 hw in_X12_readLaw_X12 rfl hr_162 (by decide) (by decide +kernel) rfl dX12_readLaw_28 ?_
          refine lv_iconst (v := 1) G0.1 G0.2.1 dX12_readLaw_31 (by decide) ?_
          refine lv_iadd G0.1 G0.2.1 dX12_readLaw_32 ?_
          refine lv_topi (fun x_190 ex_190 => ?_)
          first | have tx_190 := ti_add ex_190 (by omega -splitDisjunctions) (by omega -splitDisjunctions) | skip
          refine py_put (C := RX12) (T := TX12) (N := 54) (k := 3) (v := .int x_190) (fs' := [.int v_86, .ref (G.2 u 1), .int v_87, .int x_190, .int v_89, .int v_90, .ref (G.2 u 6), .ref (G.2 u 7), .ref (G.2 u 8), .ref (G.2 u 9), .ref (G.2 u 10), .ref (G.2 u 11), .ref (G.2 u 12), .int v_91, .int v_92, .ref (G.2 u 15), .ref (G.2 u 16), .ref (G.2 u 17), .ref (G.2 u 18), .int v_93, .int v_94, .ref (G.2 u 21), .ref (G.2 u 22), .ref (G.2 u 23), .int v_95, .int v_96, .ref (G.2 u 26), .ref (G.2 u 27), .ref (G.2 u 28), .int v_97, .long y_98, .int v_99, .int v_100, .int v_101, .int v_102, .ref (G.2 u 35), .ref (G.2 u 36), .ref (G.2 u 37), .ref (G.2 u 38), .ref (G.2 u 39), .ref (G.2 u 40), .ref (G.2 u 41), .ref (G.2 u 42), .int v_103, .ref (G.2 u 44), .ref (G.2 u 45), .ref (G.2 u 46), .ref (G.2 u 47), .long y_104, .ref (G.2 u 49), .ref (G.2 u 50), .int v_105, .long y_106, .int v_107]) (ty0 := tyX12) G0 hw tyX12_ok nmX12 in_X12_readLaw_X12 rfl hr_162 (by decide) (by decide +kernel) rfl rfl rfl rfl (Nat.le_of_ble_eq_true rfl) rfl dX12_readLaw_33 (fun f_191 H_192 locs h_193 x_194 hw => ?_)
          have hLB := hLB.kp hG Tu (KP.refl.upd hWF x_194 Tu (Or.inl (by decide)) : KP G [13] false f_149 f_191) (LK.of (by decide))
          have hLC := fun hw => (hLC (by have z1 := mi_row hr_162 4 rfl; have z2 := mi_row h_193 4 rfl; omega)).own hG hWF Tu x_194 (by have z1 := mi_row hr_162 14 rfl; have z2 := mi_row h_193 14 rfl; omega)
          have hMB := hMB.kp (kp_f (KP.refl.upd hWF x_194 Tu (Or.inl (by decide)) : KP G [13] false f_149 f_191) (wt12_1 hG Tu) (by decide) (by decide) (fun _ => by decide))
          have hFK := hFK.put hr_162 h_193 3 (by decide) rfl
          have cq_195 := cdv_own (f1 := f_149) (f2 := f_191) hG hWF Tu x_194 (by have z1 := mi_row hr_162 14 rfl; have z2 := mi_row h_193 14 rfl; omega)
          have kq_196 := clv_own (f1 := f_149) (f2 := f_191) hG hWF Tu x_194 (by have z1 := mi_row hr_162 14 rfl; have z2 := mi_row h_193 14 rfl; omega)
          have hKP := hKP.upd hWF x_194 Tu (Or.inl (by decide))
          have hWF := wf_upd hWF h_193 x_194 (by rw [Tu]; exact ⟨v_86, v_87, x_190, v_89, v_90, v_91, v_92, v_93, v_94, v_95, v_96, v_97, y_98, v_99, v_100, v_101, v_102, v_103, y_104, v_105, y_106, v_107, rfl, ⟨by omega, by omega⟩, ⟨by omega, by omega⟩, ⟨by omega, by omega⟩, ⟨by omega, by omega⟩, ⟨by omega, by omega⟩, ⟨by omega, by omega⟩, ⟨by omega, by omega⟩, ⟨by omega, by omega⟩, ⟨by omega, by omega⟩, ⟨by omega, by omega⟩, ⟨by omega, by omega⟩, ⟨by omega, by omega⟩⟩)
          have tq_197 := mi_row h_193 2 rfl
          have tq_198 := mi_row h_193 3 rfl
          have bx_190 := wf_free x_190
          have tq_199 := mi_row h_193 4 rfl
          have bv_89 := wf_free v_89
          have tq_200 := mi_row h_193 5 rfl
          have bv_90 := wf_free v_90
          have tq_201 := mi_row h_193 14 rfl
          refine lv_aload_n G0.1 G0.2.1 dX12_readLaw_36 rfl (lv_at hl 0 rfl) ?_
          have hWFp := hWF
          have hCLp := hLC (by omega)
          refine py_callv hw (va_runV (As := []) (rest := []) G0 (c_X12_clause l E G L_148 f_191 H_192.size u gb nb (rs_sk gb nb (mi f_j9 u 3) + 1) hG hWF Tu (show mi f_191 u 4 = -1 ∧ mi f_191 u 5 = 0 ∧ 0 ≤ mi f_191 u 3 ∧ mi f_191 u 3 ≤ mi f_191 u 2 ∧ cdv f_191 G u ≤ mi f_191 u 3 ∧ 2 * clv f_191 G u ≤ mi f_191 u 3 by omega) (show mi f_191 u 2 = nb ∧ mi f_191 u 3 = (rs_sk gb nb (mi f_j9 u 3) + 1) by omega) hMB) (cwV 0 G0.2.2.2.2 g_X12_readLaw_X12_clause_201 rfl rfl rfl (by decide +kernel) ⟨(Nat.le_of_ble_eq_true rfl), (Nat.le_of_ble_eq_true rfl)⟩) (py_preV hw (C := RX12) (T := TX12) (N := 54) rfl h_193) rfl rfl hl.1 rfl (lv_room (Nat.le_of_ble_eq_true rfl)) dX12_readLaw_37 ⟨(Nat.le_of_ble_eq_true rfl), (Nat.le_of_ble_eq_true rfl)⟩) (fun L_202 f_203 H_204 locs hp_205 hw => ?_)
          obtain ⟨en_207, en_208, en_209, en_210, en_211, en_212, en_213, hWF, kp_214, fk_215⟩ := hp_205
          have hMB := hMB.kp (kp_f kp_214 (wt12_1 hG Tu) (by decide) (by decide) (fun _ => by decide))
          have hFK := hFK.trans fk_215 (by decide)
          have hKP := hKP.trans kp_214 (by decide) (by decide)
          obtain ⟨v_216, v_217, v_218, hr_219⟩ := fk_3_4_5 hWF Tu fk_215 h_193
          have tq_220 := mi_row hr_219 2 rfl
          have tq_221 := mi_row hr_219 3 rfl
          have bv_216 := wf_free v_216
          have tq_222 := mi_row hr_219 4 rfl
          have bv_217 := wf_free v_217
          have tq_223 := mi_row hr_219 5 rfl
          have bv_218 := wf_free v_218
          have tq_224 := mi_row hr_219 14 rfl
          have hX : rs_lw gb nb = rs_af (rs_ca gb nb) 4 gb nb (rs_ca gb nb (rs_sk gb nb (mi f_j9 u 3) + 1)) := (rs_af_onp (iv3 (by omega)) (by decide) (rs_co_y4 (by omega)) (by omega) rfl).trans (rs_lp_af (fun hx => by omega))
          have hLB := hLB.cx hG hWFp Tu en_210 (by omega) (by omega) (by omega)
          have hckp := clv_rng hG hWFp Tu (by omega) (by omega)
          have hx14 : mi f_203 u 14 = a.toInt := by have hz := en_210.1.1; omega
          have hLC : mi f_203 u 4 = -1 → LC f_203 G u := fun hw => hCLp.cx en_210 (by omega) (by omega) (fun hy => by first | (have hz := en_211 hw; rw [show mi _ u 14 = a.toInt by omega] at hz ⊢; exact hz) | exact en_211 hw | exact en_211)
          refine lv_goto (tgt := 9) G0.1 G0.2.1 dX12_readLaw_40 (by decide) ?_
          exact ih_9 ((mi f u 2 - mi f_203 u 3).toNat) (by omega) L_202 f_203 _ _ ls rfl hWF hKP hLB hMB hFK hLC (by first | omega | (intros; omega)) (by first | omega | (intros; omega)) (by first | omega | (intros; omega)) (fun hw => rs_af_w1 hX (by omega) (by omega)) (fun hw => rs_af_w0 hX (by omega) (by omega)) hw (lv_sub hl [0, 1] rfl)
  exact lo_9 _ L_63 f_64 _ _ ls rfl hWF hKP hLB hMB hFK hLC (by first | omega | (intros; omega)) (by first | omega | (intros; omega)) (by first | omega | (intros; omega)) (fun hw => rs_af_w1 hX (by omega) (by omega)) (fun hw => rs_af_w0 hX (by omega) (by omega)) hw (lv_sub hl [0, 1] rfl)
