theorem dX10_itemOf_0 : decode cX10_itemOf 0 = .ok (.iconst 0, 1) := by decide +kernel
theorem dX10_itemOf_1 : decode cX10_itemOf 1 = .ok (.istore_n 2, 1) := by decide +kernel
theorem dX10_itemOf_2 : decode cX10_itemOf 2 = .ok (.iload_n 2, 1) := by decide +kernel
theorem dX10_itemOf_3 : decode cX10_itemOf 3 = .ok (.iconst 4, 1) := by decide +kernel
theorem dX10_itemOf_4 : decode cX10_itemOf 4 = .ok (.if_icmp .ge 22, 3) := by decide +kernel
theorem dX10_itemOf_7 : decode cX10_itemOf 7 = .ok (.getstatic 87, 3) := by decide +kernel
theorem dX10_itemOf_10 : decode cX10_itemOf 10 = .ok (.iload_n 1, 1) := by decide +kernel
theorem dX10_itemOf_11 : decode cX10_itemOf 11 = .ok (.iload_n 2, 1) := by decide +kernel
theorem dX10_itemOf_12 : decode cX10_itemOf 12 = .ok (.iadd, 1) := by decide +kernel
theorem dX10_itemOf_13 : decode cX10_itemOf 13 = .ok (.caload, 1) := by decide +kernel
theorem dX10_itemOf_14 : decode cX10_itemOf 14 = .ok (.iload_n 0, 1) := by decide +kernel
theorem dX10_itemOf_15 : decode cX10_itemOf 15 = .ok (.if_icmp .ne 5, 3) := by decide +kernel
theorem dX10_itemOf_18 : decode cX10_itemOf 18 = .ok (.iload_n 2, 1) := by decide +kernel
theorem dX10_itemOf_19 : decode cX10_itemOf 19 = .ok (.ireturn, 1) := by decide +kernel
theorem dX10_itemOf_20 : decode cX10_itemOf 20 = .ok (.iinc 2 1, 3) := by decide +kernel
theorem dX10_itemOf_23 : decode cX10_itemOf 23 = .ok (.goto (-21), 3) := by decide +kernel
theorem dX10_itemOf_26 : decode cX10_itemOf 26 = .ok (.iconst (-1), 1) := by decide +kernel
theorem dX10_itemOf_27 : decode cX10_itemOf 27 = .ok (.ireturn, 1) := by decide +kernel
theorem dX9_addFamily_0 : decode cX9_addFamily 0 = .ok (.aload_n 0, 1) := by decide +kernel
theorem dX9_addFamily_1 : decode cX9_addFamily 1 = .ok (.getfield 22, 3) := by decide +kernel
theorem dX9_addFamily_4 : decode cX9_addFamily 4 = .ok (.aload_n 0, 1) := by decide +kernel
theorem dX9_addFamily_5 : decode cX9_addFamily 5 = .ok (.getfield 38, 3) := by decide +kernel
theorem dX9_addFamily_8 : decode cX9_addFamily 8 = .ok (.aload_n 1, 1) := by decide +kernel
theorem dX9_addFamily_9 : decode cX9_addFamily 9 = .ok (.iconst 0, 1) := by decide +kernel
theorem dX9_addFamily_10 : decode cX9_addFamily 10 = .ok (.iaload, 1) := by decide +kernel
theorem dX9_addFamily_11 : decode cX9_addFamily 11 = .ok (.iastore, 1) := by decide +kernel
theorem dX9_addFamily_12 : decode cX9_addFamily 12 = .ok (.aload_n 0, 1) := by decide +kernel
theorem dX9_addFamily_13 : decode cX9_addFamily 13 = .ok (.getfield 25, 3) := by decide +kernel
theorem dX9_addFamily_16 : decode cX9_addFamily 16 = .ok (.aload_n 0, 1) := by decide +kernel
theorem dX9_addFamily_17 : decode cX9_addFamily 17 = .ok (.getfield 38, 3) := by decide +kernel
theorem dX9_addFamily_20 : decode cX9_addFamily 20 = .ok (.aload_n 1, 1) := by decide +kernel
theorem dX9_addFamily_21 : decode cX9_addFamily 21 = .ok (.iconst 1, 1) := by decide +kernel
theorem dX9_addFamily_22 : decode cX9_addFamily 22 = .ok (.iaload, 1) := by decide +kernel
theorem dX9_addFamily_23 : decode cX9_addFamily 23 = .ok (.iastore, 1) := by decide +kernel
theorem dX9_addFamily_24 : decode cX9_addFamily 24 = .ok (.aload_n 0, 1) := by decide +kernel
theorem dX9_addFamily_25 : decode cX9_addFamily 25 = .ok (.getfield 28, 3) := by decide +kernel
theorem dX9_addFamily_28 : decode cX9_addFamily 28 = .ok (.aload_n 0, 1) := by decide +kernel
theorem dX9_addFamily_29 : decode cX9_addFamily 29 = .ok (.getfield 38, 3) := by decide +kernel
theorem dX9_addFamily_32 : decode cX9_addFamily 32 = .ok (.aload_n 1, 1) := by decide +kernel
theorem dX9_addFamily_33 : decode cX9_addFamily 33 = .ok (.iconst 2, 1) := by decide +kernel
theorem dX9_addFamily_34 : decode cX9_addFamily 34 = .ok (.iaload, 1) := by decide +kernel
theorem dX9_addFamily_35 : decode cX9_addFamily 35 = .ok (.iastore, 1) := by decide +kernel
theorem dX9_addFamily_36 : decode cX9_addFamily 36 = .ok (.aload_n 0, 1) := by decide +kernel
theorem dX9_addFamily_37 : decode cX9_addFamily 37 = .ok (.getfield 31, 3) := by decide +kernel
theorem dX9_addFamily_40 : decode cX9_addFamily 40 = .ok (.aload_n 0, 1) := by decide +kernel
theorem dX9_addFamily_41 : decode cX9_addFamily 41 = .ok (.getfield 38, 3) := by decide +kernel
theorem dX9_addFamily_44 : decode cX9_addFamily 44 = .ok (.aload_n 1, 1) := by decide +kernel
theorem dX9_addFamily_45 : decode cX9_addFamily 45 = .ok (.iconst 3, 1) := by decide +kernel
theorem dX9_addFamily_46 : decode cX9_addFamily 46 = .ok (.iaload, 1) := by decide +kernel
theorem dX9_addFamily_47 : decode cX9_addFamily 47 = .ok (.iastore, 1) := by decide +kernel
theorem dX9_addFamily_48 : decode cX9_addFamily 48 = .ok (.aload_n 0, 1) := by decide +kernel
theorem dX9_addFamily_49 : decode cX9_addFamily 49 = .ok (.dup, 1) := by decide +kernel
theorem dX9_addFamily_50 : decode cX9_addFamily 50 = .ok (.getfield 38, 3) := by decide +kernel
theorem dX9_addFamily_53 : decode cX9_addFamily 53 = .ok (.iconst 1, 1) := by decide +kernel
theorem dX9_addFamily_54 : decode cX9_addFamily 54 = .ok (.iadd, 1) := by decide +kernel
theorem dX9_addFamily_55 : decode cX9_addFamily 55 = .ok (.putfield 38, 3) := by decide +kernel
theorem dX9_addFamily_58 : decode cX9_addFamily 58 = .ok (.return_, 1) := by decide +kernel
theorem dX9_addLevel_0 : decode cX9_addLevel 0 = .ok (.aload_n 0, 1) := by decide +kernel
theorem dX9_addLevel_1 : decode cX9_addLevel 1 = .ok (.getfield 9, 3) := by decide +kernel
theorem dX9_addLevel_4 : decode cX9_addLevel 4 = .ok (.aload_n 0, 1) := by decide +kernel
theorem dX9_addLevel_5 : decode cX9_addLevel 5 = .ok (.getfield 34, 3) := by decide +kernel
theorem dX9_addLevel_8 : decode cX9_addLevel 8 = .ok (.aload_n 1, 1) := by decide +kernel
theorem dX9_addLevel_9 : decode cX9_addLevel 9 = .ok (.iconst 0, 1) := by decide +kernel
theorem dX9_addLevel_10 : decode cX9_addLevel 10 = .ok (.iaload, 1) := by decide +kernel
theorem dX9_addLevel_11 : decode cX9_addLevel 11 = .ok (.iastore, 1) := by decide +kernel
theorem dX9_addLevel_12 : decode cX9_addLevel 12 = .ok (.aload_n 0, 1) := by decide +kernel
theorem dX9_addLevel_13 : decode cX9_addLevel 13 = .ok (.getfield 13, 3) := by decide +kernel
theorem dX9_addLevel_16 : decode cX9_addLevel 16 = .ok (.aload_n 0, 1) := by decide +kernel
theorem dX9_addLevel_17 : decode cX9_addLevel 17 = .ok (.getfield 34, 3) := by decide +kernel
theorem dX9_addLevel_20 : decode cX9_addLevel 20 = .ok (.aload_n 1, 1) := by decide +kernel
theorem dX9_addLevel_21 : decode cX9_addLevel 21 = .ok (.iconst 1, 1) := by decide +kernel
theorem dX9_addLevel_22 : decode cX9_addLevel 22 = .ok (.iaload, 1) := by decide +kernel
theorem dX9_addLevel_23 : decode cX9_addLevel 23 = .ok (.iastore, 1) := by decide +kernel
theorem dX9_addLevel_24 : decode cX9_addLevel 24 = .ok (.aload_n 0, 1) := by decide +kernel
theorem dX9_addLevel_25 : decode cX9_addLevel 25 = .ok (.getfield 16, 3) := by decide +kernel
theorem dX9_addLevel_28 : decode cX9_addLevel 28 = .ok (.aload_n 0, 1) := by decide +kernel
theorem dX9_addLevel_29 : decode cX9_addLevel 29 = .ok (.getfield 34, 3) := by decide +kernel
theorem dX9_addLevel_32 : decode cX9_addLevel 32 = .ok (.aload_n 1, 1) := by decide +kernel
theorem dX9_addLevel_33 : decode cX9_addLevel 33 = .ok (.iconst 2, 1) := by decide +kernel
theorem dX9_addLevel_34 : decode cX9_addLevel 34 = .ok (.iaload, 1) := by decide +kernel
theorem dX9_addLevel_35 : decode cX9_addLevel 35 = .ok (.iastore, 1) := by decide +kernel
theorem dX9_addLevel_36 : decode cX9_addLevel 36 = .ok (.aload_n 0, 1) := by decide +kernel
theorem dX9_addLevel_37 : decode cX9_addLevel 37 = .ok (.getfield 19, 3) := by decide +kernel
theorem dX9_addLevel_40 : decode cX9_addLevel 40 = .ok (.aload_n 0, 1) := by decide +kernel
theorem dX9_addLevel_41 : decode cX9_addLevel 41 = .ok (.getfield 34, 3) := by decide +kernel
theorem dX9_addLevel_44 : decode cX9_addLevel 44 = .ok (.aload_n 1, 1) := by decide +kernel
theorem dX9_addLevel_45 : decode cX9_addLevel 45 = .ok (.iconst 3, 1) := by decide +kernel
theorem dX9_addLevel_46 : decode cX9_addLevel 46 = .ok (.iaload, 1) := by decide +kernel
theorem dX9_addLevel_47 : decode cX9_addLevel 47 = .ok (.iastore, 1) := by decide +kernel
theorem dX9_addLevel_48 : decode cX9_addLevel 48 = .ok (.aload_n 0, 1) := by decide +kernel
theorem dX9_addLevel_49 : decode cX9_addLevel 49 = .ok (.dup, 1) := by decide +kernel
theorem dX9_addLevel_50 : decode cX9_addLevel 50 = .ok (.getfield 34, 3) := by decide +kernel
theorem dX9_addLevel_53 : decode cX9_addLevel 53 = .ok (.iconst 1, 1) := by decide +kernel
theorem dX9_addLevel_54 : decode cX9_addLevel 54 = .ok (.iadd, 1) := by decide +kernel
theorem dX9_addLevel_55 : decode cX9_addLevel 55 = .ok (.putfield 34, 3) := by decide +kernel
theorem dX9_addLevel_58 : decode cX9_addLevel 58 = .ok (.return_, 1) := by decide +kernel
theorem dX9_clear_0 : decode cX9_clear 0 = .ok (.aload_n 0, 1) := by decide +kernel
theorem dX9_clear_1 : decode cX9_clear 1 = .ok (.iconst 0, 1) := by decide +kernel
theorem dX9_clear_2 : decode cX9_clear 2 = .ok (.putfield 34, 3) := by decide +kernel
theorem dX9_clear_5 : decode cX9_clear 5 = .ok (.aload_n 0, 1) := by decide +kernel
theorem dX9_clear_6 : decode cX9_clear 6 = .ok (.iconst 0, 1) := by decide +kernel
theorem dX9_clear_7 : decode cX9_clear 7 = .ok (.putfield 38, 3) := by decide +kernel
theorem dX9_clear_10 : decode cX9_clear 10 = .ok (.return_, 1) := by decide +kernel
theorem dX9_firstFamiliesAt_0 : decode cX9_firstFamiliesAt 0 = .ok (.iconst 0, 1) := by decide +kernel
theorem dX9_firstFamiliesAt_1 : decode cX9_firstFamiliesAt 1 = .ok (.istore_n 2, 1) := by decide +kernel
theorem dX9_firstFamiliesAt_2 : decode cX9_firstFamiliesAt 2 = .ok (.iconst 0, 1) := by decide +kernel
theorem dX9_firstFamiliesAt_3 : decode cX9_firstFamiliesAt 3 = .ok (.istore_n 3, 1) := by decide +kernel
theorem dX9_firstFamiliesAt_4 : decode cX9_firstFamiliesAt 4 = .ok (.iload_n 3, 1) := by decide +kernel
theorem dX9_firstFamiliesAt_5 : decode cX9_firstFamiliesAt 5 = .ok (.aload_n 0, 1) := by decide +kernel
theorem dX9_firstFamiliesAt_6 : decode cX9_firstFamiliesAt 6 = .ok (.getfield 38, 3) := by decide +kernel
theorem dX9_firstFamiliesAt_9 : decode cX9_firstFamiliesAt 9 = .ok (.if_icmp .ge 27, 3) := by decide +kernel
theorem dX9_firstFamiliesAt_12 : decode cX9_firstFamiliesAt 12 = .ok (.iload_n 2, 1) := by decide +kernel
theorem dX9_firstFamiliesAt_13 : decode cX9_firstFamiliesAt 13 = .ok (.aload_n 0, 1) := by decide +kernel
theorem dX9_firstFamiliesAt_14 : decode cX9_firstFamiliesAt 14 = .ok (.getfield 25, 3) := by decide +kernel
theorem dX9_firstFamiliesAt_17 : decode cX9_firstFamiliesAt 17 = .ok (.iload_n 3, 1) := by decide +kernel
theorem dX9_firstFamiliesAt_18 : decode cX9_firstFamiliesAt 18 = .ok (.iaload, 1) := by decide +kernel
theorem dX9_firstFamiliesAt_19 : decode cX9_firstFamiliesAt 19 = .ok (.iload_n 1, 1) := by decide +kernel
theorem dX9_firstFamiliesAt_20 : decode cX9_firstFamiliesAt 20 = .ok (.if_icmp .ne 7, 3) := by decide +kernel
theorem dX9_firstFamiliesAt_23 : decode cX9_firstFamiliesAt 23 = .ok (.iconst 1, 1) := by decide +kernel
theorem dX9_firstFamiliesAt_24 : decode cX9_firstFamiliesAt 24 = .ok (.goto 4, 3) := by decide +kernel
theorem dX9_firstFamiliesAt_27 : decode cX9_firstFamiliesAt 27 = .ok (.iconst 0, 1) := by decide +kernel
theorem dX9_firstFamiliesAt_28 : decode cX9_firstFamiliesAt 28 = .ok (.iadd, 1) := by decide +kernel
theorem dX9_firstFamiliesAt_29 : decode cX9_firstFamiliesAt 29 = .ok (.istore_n 2, 1) := by decide +kernel
theorem dX9_firstFamiliesAt_30 : decode cX9_firstFamiliesAt 30 = .ok (.iinc 3 1, 3) := by decide +kernel
theorem dX9_firstFamiliesAt_33 : decode cX9_firstFamiliesAt 33 = .ok (.goto (-29), 3) := by decide +kernel
theorem dX9_firstFamiliesAt_36 : decode cX9_firstFamiliesAt 36 = .ok (.iload_n 2, 1) := by decide +kernel
theorem dX9_firstFamiliesAt_37 : decode cX9_firstFamiliesAt 37 = .ok (.ireturn, 1) := by decide +kernel
theorem dX9_isWhole_0 : decode cX9_isWhole 0 = .ok (.aload_n 0, 1) := by decide +kernel
theorem dX9_isWhole_1 : decode cX9_isWhole 1 = .ok (.getfield 34, 3) := by decide +kernel
theorem dX9_isWhole_4 : decode cX9_isWhole 4 = .ok (.iconst 2, 1) := by decide +kernel
theorem dX9_isWhole_5 : decode cX9_isWhole 5 = .ok (.if_icmp .lt 11, 3) := by decide +kernel
theorem dX9_isWhole_8 : decode cX9_isWhole 8 = .ok (.aload_n 0, 1) := by decide +kernel
theorem dX9_isWhole_9 : decode cX9_isWhole 9 = .ok (.getfield 38, 3) := by decide +kernel
theorem dX9_isWhole_12 : decode cX9_isWhole 12 = .ok (.iconst 1, 1) := by decide +kernel
theorem dX9_isWhole_13 : decode cX9_isWhole 13 = .ok (.if_icmp .ge 5, 3) := by decide +kernel
theorem dX9_isWhole_16 : decode cX9_isWhole 16 = .ok (.iconst 0, 1) := by decide +kernel
theorem dX9_isWhole_17 : decode cX9_isWhole 17 = .ok (.ireturn, 1) := by decide +kernel
theorem dX9_isWhole_18 : decode cX9_isWhole 18 = .ok (.iconst 0, 1) := by decide +kernel
theorem dX9_isWhole_19 : decode cX9_isWhole 19 = .ok (.istore_n 1, 1) := by decide +kernel
theorem dX9_isWhole_20 : decode cX9_isWhole 20 = .ok (.iload_n 1, 1) := by decide +kernel
theorem dX9_isWhole_21 : decode cX9_isWhole 21 = .ok (.aload_n 0, 1) := by decide +kernel
theorem dX9_isWhole_22 : decode cX9_isWhole 22 = .ok (.getfield 38, 3) := by decide +kernel
theorem dX9_isWhole_25 : decode cX9_isWhole 25 = .ok (.if_icmp .ge 40, 3) := by decide +kernel
theorem dX9_isWhole_28 : decode cX9_isWhole 28 = .ok (.aload_n 0, 1) := by decide +kernel
theorem dX9_isWhole_29 : decode cX9_isWhole 29 = .ok (.getfield 25, 3) := by decide +kernel
theorem dX9_isWhole_32 : decode cX9_isWhole 32 = .ok (.iload_n 1, 1) := by decide +kernel
theorem dX9_isWhole_33 : decode cX9_isWhole 33 = .ok (.iaload, 1) := by decide +kernel
theorem dX9_isWhole_34 : decode cX9_isWhole 34 = .ok (.istore_n 2, 1) := by decide +kernel
theorem dX9_isWhole_35 : decode cX9_isWhole 35 = .ok (.iload_n 2, 1) := by decide +kernel
theorem dX9_isWhole_36 : decode cX9_isWhole 36 = .ok (.aload_n 0, 1) := by decide +kernel
theorem dX9_isWhole_37 : decode cX9_isWhole 37 = .ok (.getfield 34, 3) := by decide +kernel
theorem dX9_isWhole_40 : decode cX9_isWhole 40 = .ok (.if_icmp .ge 17, 3) := by decide +kernel
theorem dX9_isWhole_43 : decode cX9_isWhole 43 = .ok (.aload_n 0, 1) := by decide +kernel
theorem dX9_isWhole_44 : decode cX9_isWhole 44 = .ok (.iload_n 2, 1) := by decide +kernel
theorem dX9_isWhole_45 : decode cX9_isWhole 45 = .ok (.invokevirtual 41, 3) := by decide +kernel
theorem dX9_isWhole_48 : decode cX9_isWhole 48 = .ok (.aload_n 0, 1) := by decide +kernel
theorem dX9_isWhole_49 : decode cX9_isWhole 49 = .ok (.getfield 9, 3) := by decide +kernel
theorem dX9_isWhole_52 : decode cX9_isWhole 52 = .ok (.iload_n 2, 1) := by decide +kernel
theorem dX9_isWhole_53 : decode cX9_isWhole 53 = .ok (.iaload, 1) := by decide +kernel
theorem dX9_isWhole_54 : decode cX9_isWhole 54 = .ok (.if_icmp .le 5, 3) := by decide +kernel
theorem dX9_isWhole_57 : decode cX9_isWhole 57 = .ok (.iconst 0, 1) := by decide +kernel
theorem dX9_isWhole_58 : decode cX9_isWhole 58 = .ok (.ireturn, 1) := by decide +kernel
theorem dX9_isWhole_59 : decode cX9_isWhole 59 = .ok (.iinc 1 1, 3) := by decide +kernel
theorem dX9_isWhole_62 : decode cX9_isWhole 62 = .ok (.goto (-42), 3) := by decide +kernel
theorem dX9_isWhole_65 : decode cX9_isWhole 65 = .ok (.iconst 1, 1) := by decide +kernel
theorem dX9_isWhole_66 : decode cX9_isWhole 66 = .ok (.ireturn, 1) := by decide +kernel
def w_X9_clear : List Cond := .code yX9_clear cX9_clear 1 none :: ([Cond.fieldLink RX9 34 "HeadYear$Valley" "levels" "I", Cond.fieldLink RX9 38 "HeadYear$Valley" "families" "I"] ++ (u_ws RX9 TX9 10 ++ ([])))
theorem in_X9_clear_X9 : ∀ w ∈ u_ws RX9 TX9 10, w ∈ w_X9_clear := fun _ h => List.mem_cons_of_mem _ (List.mem_append_right _ (List.mem_append_left _ h))
set_option maxHeartbeats 4000000 in
set_option maxRecDepth 100000 in
theorem c_X9_clear (l : Launch) (E : py_E) (G : wf_G) (L : List Nat) (f : py_F) (sz : Nat) (h : Nat) (hG : GT G) (hWF : WF E G L f) (Th : G.1 h = 10) : Met l yX9_clear w_X9_clear ({ frames := 0, cells := 0, slots := 0, locals := 0 }) (py_Pc E [.ref h] L f sz) (py_Qv E L f sz (fun L1 f1 => (VD f1 G h rv_s0) ∧ WF E G L1 f1 ∧ RP E G f f1 ∧ KP G [10] false f f1 ∧ VO G f f1 h)) 0 0 (va_A (va_pl L f) sz) := by
  refine Met.ofW (cc := cX9_clear) (maxL := 1) (ret := none) (by decide) rfl ?_
  intro p e s m args below meth c s₁ B hml hv
  obtain ⟨rfl, rfl, hw⟩ := py_start hv
  have G0 : CallFix p m c cX9_clear 1 s _ w_X9_clear RX9 := ⟨B.exec, B.bytes, hml, findClass_of_methodNamed B.named, atoms_spec (ws := w_X9_clear) B.pre⟩
  have hr := B.returns
  have hlk := B.notSynchronized
  have kcm1 : (-1 : Int32).toInt = -1 := rfl
  have kc0 : (0 : Int32).toInt = 0 := rfl
  have kc1 : (1 : Int32).toInt = 1 := rfl
  have hl := lv_entry ([.ref h]) (n := 1) (Nat.le_of_ble_eq_true rfl)
  rw [lg_entry_eq]
  generalize (lg_sl ([.ref h]) ++ List.replicate (1 - (lg_sl ([.ref h])).length) Slot.unset).toArray = ls at hl ⊢
  have hl : lv_has ls 1 [(0, .ref h)] := hl
  have hRP : RP E G f f := RP.refl
  have hKP : KP G [10] false f f := KP.refl
  have hVO : VO G f f h := VO.refl
  refine lv_aload_n G0.1 G0.2.1 dX9_clear_0 rfl (lv_at hl 0 rfl) ?_
  refine lv_iconst (v := 0) G0.1 G0.2.1 dX9_clear_1 (by decide) ?_
  obtain ⟨t_1, t_2, t_3, t_4, t_5, t_6, t_7, t_8⟩ := wt_9 hG Th
  obtain ⟨v_9, v_10, hr_13, b_11, b_12⟩ := wg_9 hWF Th
  have tq_14 := va_eq hr_13
  refine py_put (C := RX9) (T := TX9) (N := 10) (k := 8) (v := .int 0) (fs' := [.ref (G.2 h 0), .ref (G.2 h 1), .ref (G.2 h 2), .ref (G.2 h 3), .ref (G.2 h 4), .ref (G.2 h 5), .ref (G.2 h 6), .ref (G.2 h 7), .int 0, .int v_10]) (ty0 := tyX9) G0 hw tyX9_ok nmX9 in_X9_clear_X9 rfl hr_13 (by decide) (by decide +kernel) rfl rfl rfl rfl (Nat.le_of_ble_eq_true rfl) rfl dX9_clear_2 (fun f_15 H_16 locs h_17 x_18 hw => ?_)
  have hVO := hVO.upd hWF x_18 (Or.inl rfl)
  have hKP := hKP.upd hWF x_18 Th (Or.inl (by decide))
  have hRP := hRP.trans (rp_upd hG hWF x_18 hr_13.2 h_17.2 (rp_code hG Th (by decide)) rfl)
  have hWF := wf_upd hWF h_17 x_18 (by rw [Th]; exact ⟨0, v_10, rfl, ⟨by omega, by omega⟩, ⟨by omega, by omega⟩⟩)
  have tq_19 := va_eq h_17
  refine lv_aload_n G0.1 G0.2.1 dX9_clear_5 rfl (lv_at hl 0 rfl) ?_
  refine lv_iconst (v := 0) G0.1 G0.2.1 dX9_clear_6 (by decide) ?_
  refine py_put (C := RX9) (T := TX9) (N := 10) (k := 9) (v := .int 0) (fs' := [.ref (G.2 h 0), .ref (G.2 h 1), .ref (G.2 h 2), .ref (G.2 h 3), .ref (G.2 h 4), .ref (G.2 h 5), .ref (G.2 h 6), .ref (G.2 h 7), .int 0, .int 0]) (ty0 := tyX9) G0 hw tyX9_ok nmX9 in_X9_clear_X9 rfl h_17 (by decide) (by decide +kernel) rfl rfl rfl rfl (Nat.le_of_ble_eq_true rfl) rfl dX9_clear_7 (fun f_20 H_21 locs h_22 x_23 hw => ?_)
  have hVO := hVO.upd hWF x_23 (Or.inl rfl)
  have hKP := hKP.upd hWF x_23 Th (Or.inl (by decide))
  have hRP := hRP.trans (rp_upd hG hWF x_23 h_17.2 h_22.2 (rp_code hG Th (by decide)) rfl)
  have hWF := wf_upd hWF h_22 x_23 (by rw [Th]; exact ⟨0, 0, rfl, ⟨by omega, by omega⟩, ⟨by omega, by omega⟩⟩)
  have tq_24 := va_eq h_22
  exact py_vret G0 hr hlk hw ⟨(VD.zero (by omega) (by omega)), hWF, hRP, hKP, hVO⟩ dX9_clear_10

def w_X9_addLevel : List Cond := .code yX9_addLevel cX9_addLevel 2 none :: ([Cond.fieldLink RX9 9 "HeadYear$Valley" "huts" "[I", Cond.fieldLink RX9 34 "HeadYear$Valley" "levels" "I", Cond.fieldLink RX9 13 "HeadYear$Valley" "food" "[I", Cond.fieldLink RX9 16 "HeadYear$Valley" "danger" "[I", Cond.fieldLink RX9 19 "HeadYear$Valley" "brow" "[I"] ++ (u_ws RX9 TX9 10 ++ ([])))
theorem in_X9_addLevel_X9 : ∀ w ∈ u_ws RX9 TX9 10, w ∈ w_X9_addLevel := fun _ h => List.mem_cons_of_mem _ (List.mem_append_right _ (List.mem_append_left _ h))
set_option maxHeartbeats 4000000 in
set_option maxRecDepth 100000 in
theorem c_X9_addLevel (l : Launch) (E : py_E) (G : wf_G) (L : List Nat) (f : py_F) (sz : Nat) (h : Nat) (a : Nat) (sb : rv_S) (hG : GT G) (hWF : WF E G L f) (Th : G.1 h = 10) (Ta : G.1 a = 36) (hp0 : va_l f h < 8) (hq0 : VD f G h sb) : Met l yX9_addLevel w_X9_addLevel ({ frames := 0, cells := 0, slots := 0, locals := 0 }) (py_Pc E [.ref h, .ref a] L f sz) (py_Qv E L f sz (fun L1 f1 => (VD f1 G h ((sb.1.1 + 1, sb.1.2), (rv_set sb.2.1 sb.1.1 (it0 f a), sb.2.2))) ∧ WF E G L1 f1 ∧ RP E G f f1 ∧ KP G [10, 24, 80] false f f1 ∧ VO G f f1 h)) 0 0 (va_A (va_pl L f) sz) := by
  refine Met.ofW (cc := cX9_addLevel) (maxL := 2) (ret := none) (by decide) rfl ?_
  intro p e s m args below meth c s₁ B hml hv
  obtain ⟨rfl, rfl, hw⟩ := py_start hv
  have G0 : CallFix p m c cX9_addLevel 2 s _ w_X9_addLevel RX9 := ⟨B.exec, B.bytes, hml, findClass_of_methodNamed B.named, atoms_spec (ws := w_X9_addLevel) B.pre⟩
  have hr := B.returns
  have hlk := B.notSynchronized
  have kcm1 : (-1 : Int32).toInt = -1 := rfl
  have kc0 : (0 : Int32).toInt = 0 := rfl
  have kc1 : (1 : Int32).toInt = 1 := rfl
  have kc2 : (2 : Int32).toInt = 2 := rfl
  have kc3 : (3 : Int32).toInt = 3 := rfl
  have hl := lv_entry ([.ref h, .ref a]) (n := 2) (Nat.le_of_ble_eq_true rfl)
  rw [lg_entry_eq]
  generalize (lg_sl ([.ref h, .ref a]) ++ List.replicate (2 - (lg_sl ([.ref h, .ref a])).length) Slot.unset).toArray = ls at hl ⊢
  have hl : lv_has ls 2 [(0, .ref h), (1, .ref a)] := hl
  have hRP : RP E G f f := RP.refl
  have hKP : KP G [10, 24, 80] false f f := KP.refl
  have hVO : VO G f f h := VO.refl
  refine lv_aload_n G0.1 G0.2.1 dX9_addLevel_0 rfl (lv_at hl 0 rfl) ?_
  obtain ⟨t_1, t_2, t_3, t_4, t_5, t_6, t_7, t_8⟩ := wt_9 hG Th
  obtain ⟨v_9, v_10, hr_13, b_11, b_12⟩ := wg_9 hWF Th
  have tq_14 := va_eq hr_13
  refine py_get (C := RX9) (T := TX9) (N := 10) (k := 0) (v := .ref (G.2 h 0)) G0 hw in_X9_addLevel_X9 rfl hr_13 (by decide) (by decide +kernel) rfl dX9_addLevel_1 ?_
  refine lv_aload_n G0.1 G0.2.1 dX9_addLevel_4 rfl (lv_at hl 0 rfl) ?_
  refine py_get (C := RX9) (T := TX9) (N := 10) (k := 8) (v := .int v_9) G0 hw in_X9_addLevel_X9 rfl hr_13 (by decide) (by decide +kernel) rfl dX9_addLevel_5 ?_
  refine lv_aload_n G0.1 G0.2.1 dX9_addLevel_8 rfl (lv_at hl 1 rfl) ?_
  refine lv_iconst (v := 0) G0.1 G0.2.1 dX9_addLevel_9 (by decide) ?_
  obtain ⟨g_15, ha_16, hi_17⟩ := wf_arr (n := 4) (lo := (-2147483648)) (hi := 2147483647) hWF Ta (by decide) (fun _ => rfl)
  have tq_18 := it_eq ha_16
  have rg_19 : vp_in 0 4 := ti_in (by omega) (by omega)
  refine py_iald G0 hw ha_16 rg_19 dX9_addLevel_10 ?_
  refine lv_topi (fun x_20 ex_20 => ?_)
  have bx_20 := wf_free x_20
  have kx_20 : x_20.toInt = (g_15 0).toInt := by rw [ex_20]; rfl
  obtain ⟨g_21, ha_22, hi_23⟩ := wf_arr (n := 8) (lo := (-2147483648)) (hi := 2147483647) hWF t_1 (by decide) (fun _ => rfl)
  have rg_24 : vp_in v_9 8 := ti_in (by omega) (by omega)
  refine py_iast G0 hw ha_22 rg_24 dX9_addLevel_11 (fun f_25 H_26 locs h_27 x_28 hw => ?_)
  have hkw : KP G [80] false f f_25 := KP.refl.upd hWF x_28 t_1 (Or.inl (by decide))
  have hVO := hVO.upd hWF x_28 (Or.inr (by rw [t_1]; omega))
  have hKP := hKP.upd hWF x_28 t_1 (Or.inl (by decide))
  have hRP := hRP.trans (rp_upd hG hWF x_28 ha_22.2 h_27.2 (rp_code hG t_1 (by decide)) rfl)
  have hi_29 := wf_inu (k := (v_9 : Int32).toNatClampNeg) (x := x_20) hi_23 (wf_free x_20).1 (wf_free x_20).2
  have hWF := wf_upd hWF h_27 x_28 (by rw [t_1]; exact ⟨_, rfl, hi_29⟩)
  have hr_13 := hr_13.ext x_28 (py_ne_arr hr_13 ha_22)
  have tq_30 := va_eq hr_13
  have ha_16 := ha_16.ext x_28 (wf_ne Ta t_1 (by decide))
  have tq_31 := it_eq ha_16
  refine lv_aload_n G0.1 G0.2.1 dX9_addLevel_12 rfl (lv_at hl 0 rfl) ?_
  refine py_get (C := RX9) (T := TX9) (N := 10) (k := 1) (v := .ref (G.2 h 1)) G0 hw in_X9_addLevel_X9 rfl hr_13 (by decide) (by decide +kernel) rfl dX9_addLevel_13 ?_
  refine lv_aload_n G0.1 G0.2.1 dX9_addLevel_16 rfl (lv_at hl 0 rfl) ?_
  refine py_get (C := RX9) (T := TX9) (N := 10) (k := 8) (v := .int v_9) G0 hw in_X9_addLevel_X9 rfl hr_13 (by decide) (by decide +kernel) rfl dX9_addLevel_17 ?_
  refine lv_aload_n G0.1 G0.2.1 dX9_addLevel_20 rfl (lv_at hl 1 rfl) ?_
  refine lv_iconst (v := 1) G0.1 G0.2.1 dX9_addLevel_21 (by decide) ?_
  have rg_32 : vp_in 1 4 := ti_in (by omega) (by omega)
  refine py_iald G0 hw ha_16 rg_32 dX9_addLevel_22 ?_
  refine lv_topi (fun x_33 ex_33 => ?_)
  have bx_33 := wf_free x_33
  have kx_33 : x_33.toInt = (g_15 1).toInt := by rw [ex_33]; rfl
  obtain ⟨g_34, ha_35, hi_36⟩ := wf_arr (n := 8) (lo := (-2147483648)) (hi := 2147483647) hWF t_2 (by decide) (fun _ => rfl)
  have rg_37 : vp_in v_9 8 := ti_in (by omega) (by omega)
  refine py_iast G0 hw ha_35 rg_37 dX9_addLevel_23 (fun f_38 H_39 locs h_40 x_41 hw => ?_)
  have hVO := hVO.upd hWF x_41 (Or.inr (by rw [t_2]; omega))
  have hKP := hKP.upd hWF x_41 t_2 (Or.inl (by decide))
  have hRP := hRP.trans (rp_upd hG hWF x_41 ha_35.2 h_40.2 (rp_code hG t_2 (by decide)) rfl)
  have hi_42 := wf_inu (k := (v_9 : Int32).toNatClampNeg) (x := x_33) hi_36 (wf_free x_33).1 (wf_free x_33).2
  have hWF := wf_upd hWF h_40 x_41 (by rw [t_2]; exact ⟨_, rfl, hi_42⟩)
  have hr_13 := hr_13.ext x_41 (py_ne_arr hr_13 ha_35)
  have tq_43 := va_eq hr_13
  have h_27 := h_27.ext x_41 (wf_ne t_1 t_2 (by decide))
  have ha_16 := ha_16.ext x_41 (wf_ne Ta t_2 (by decide))
  have tq_44 := it_eq ha_16
  refine lv_aload_n G0.1 G0.2.1 dX9_addLevel_24 rfl (lv_at hl 0 rfl) ?_
  refine py_get (C := RX9) (T := TX9) (N := 10) (k := 2) (v := .ref (G.2 h 2)) G0 hw in_X9_addLevel_X9 rfl hr_13 (by decide) (by decide +kernel) rfl dX9_addLevel_25 ?_
  refine lv_aload_n G0.1 G0.2.1 dX9_addLevel_28 rfl (lv_at hl 0 rfl) ?_
  refine py_get (C := RX9) (T := TX9) (N := 10) (k := 8) (v := .int v_9) G0 hw in_X9_addLevel_X9 rfl hr_13 (by decide) (by decide +kernel) rfl dX9_addLevel_29 ?_
  refine lv_aload_n G0.1 G0.2.1 dX9_addLevel_32 rfl (lv_at hl 1 rfl) ?_
  refine lv_iconst (v := 2) G0.1 G0.2.1 dX9_addLevel_33 (by decide) ?_
  have rg_45 : vp_in 2 4 := ti_in (by omega) (by omega)
  refine py_iald G0 hw ha_16 rg_45 dX9_addLevel_34 ?_
  refine lv_topi (fun x_46 ex_46 => ?_)
  have bx_46 := wf_free x_46
  obtain ⟨g_47, ha_48, hi_49⟩ := wf_arr (n := 8) (lo := (-2147483648)) (hi := 2147483647) hWF t_3 (by decide) (fun _ => rfl)
  have rg_50 : vp_in v_9 8 := ti_in (by omega) (by omega)
  refine py_iast G0 hw ha_48 rg_50 dX9_addLevel_35 (fun f_51 H_52 locs h_53 x_54 hw => ?_)
  have hVO := hVO.upd hWF x_54 (Or.inr (by rw [t_3]; omega))
  have hKP := hKP.upd hWF x_54 t_3 (Or.inl (by decide))
  have hRP := hRP.trans (rp_upd hG hWF x_54 ha_48.2 h_53.2 (rp_code hG t_3 (by decide)) rfl)
  have hi_55 := wf_inu (k := (v_9 : Int32).toNatClampNeg) (x := x_46) hi_49 (wf_free x_46).1 (wf_free x_46).2
  have hWF := wf_upd hWF h_53 x_54 (by rw [t_3]; exact ⟨_, rfl, hi_55⟩)
  have hr_13 := hr_13.ext x_54 (py_ne_arr hr_13 ha_48)
  have tq_56 := va_eq hr_13
  have h_27 := h_27.ext x_54 (wf_ne t_1 t_3 (by decide))
  have ha_16 := ha_16.ext x_54 (wf_ne Ta t_3 (by decide))
  have tq_57 := it_eq ha_16
  refine lv_aload_n G0.1 G0.2.1 dX9_addLevel_36 rfl (lv_at hl 0 rfl) ?_
  refine py_get (C := RX9) (T := TX9) (N := 10) (k := 3) (v := .ref (G.2 h 3)) G0 hw in_X9_addLevel_X9 rfl hr_13 (by decide) (by decide +kernel) rfl dX9_addLevel_37 ?_
  refine lv_aload_n G0.1 G0.2.1 dX9_addLevel_40 rfl (lv_at hl 0 rfl) ?_
  refine py_get (C := RX9) (T := TX9) (N := 10) (k := 8) (v := .int v_9) G0 hw in_X9_addLevel_X9 rfl hr_13 (by decide) (by decide +kernel) rfl dX9_addLevel_41 ?_
  refine lv_aload_n G0.1 G0.2.1 dX9_addLevel_44 rfl (lv_at hl 1 rfl) ?_
  refine lv_iconst (v := 3) G0.1 G0.2.1 dX9_addLevel_45 (by decide) ?_
  have rg_58 : vp_in 3 4 := ti_in (by omega) (by omega)
  refine py_iald G0 hw ha_16 rg_58 dX9_addLevel_46 ?_
  refine lv_topi (fun x_59 ex_59 => ?_)
  have bx_59 := wf_free x_59
  obtain ⟨g_60, ha_61, hi_62⟩ := wf_arr (n := 8) (lo := (-2147483648)) (hi := 2147483647) hWF t_4 (by decide) (fun _ => rfl)
  have rg_63 : vp_in v_9 8 := ti_in (by omega) (by omega)
  refine py_iast G0 hw ha_61 rg_63 dX9_addLevel_47 (fun f_64 H_65 locs h_66 x_67 hw => ?_)
  have hVO := hVO.upd hWF x_67 (Or.inr (by rw [t_4]; omega))
  have hKP := hKP.upd hWF x_67 t_4 (Or.inl (by decide))
  have hRP := hRP.trans (rp_upd hG hWF x_67 ha_61.2 h_66.2 (rp_code hG t_4 (by decide)) rfl)
  have hi_68 := wf_inu (k := (v_9 : Int32).toNatClampNeg) (x := x_59) hi_62 (wf_free x_59).1 (wf_free x_59).2
  have hWF := wf_upd hWF h_66 x_67 (by rw [t_4]; exact ⟨_, rfl, hi_68⟩)
  have hr_13 := hr_13.ext x_67 (py_ne_arr hr_13 ha_61)
  have tq_69 := va_eq hr_13
  have h_27 := h_27.ext x_67 (wf_ne t_1 t_4 (by decide))
  have ha_16 := ha_16.ext x_67 (wf_ne Ta t_4 (by decide))
  have tq_70 := it_eq ha_16
  refine lv_aload_n G0.1 G0.2.1 dX9_addLevel_48 rfl (lv_at hl 0 rfl) ?_
  refine lv_dup G0.1 G0.2.1 dX9_addLevel_49 rfl ?_
  refine py_get (C := RX9) (T := TX9) (N := 10) (k := 8) (v := .int v_9) G0 hw in_X9_addLevel_X9 rfl hr_13 (by decide) (by decide +kernel) rfl dX9_addLevel_50 ?_
  refine lv_iconst (v := 1) G0.1 G0.2.1 dX9_addLevel_53 (by decide) ?_
  refine lv_iadd G0.1 G0.2.1 dX9_addLevel_54 ?_
  refine lv_topi (fun x_71 ex_71 => ?_)
  first | have tx_71 := ti_add ex_71 (by omega) (by omega) | skip
  refine py_put (C := RX9) (T := TX9) (N := 10) (k := 8) (v := .int x_71) (fs' := [.ref (G.2 h 0), .ref (G.2 h 1), .ref (G.2 h 2), .ref (G.2 h 3), .ref (G.2 h 4), .ref (G.2 h 5), .ref (G.2 h 6), .ref (G.2 h 7), .int x_71, .int v_10]) (ty0 := tyX9) G0 hw tyX9_ok nmX9 in_X9_addLevel_X9 rfl hr_13 (by decide) (by decide +kernel) rfl rfl rfl rfl (Nat.le_of_ble_eq_true rfl) rfl dX9_addLevel_55 (fun f_72 H_73 locs h_74 x_75 hw => ?_)
  have hVO := hVO.upd hWF x_75 (Or.inl rfl)
  have hKP := hKP.upd hWF x_75 Th (Or.inl (by decide))
  have hRP := hRP.trans (rp_upd hG hWF x_75 hr_13.2 h_74.2 (rp_code hG Th (by decide)) rfl)
  have hWF := wf_upd hWF h_74 x_75 (by rw [Th]; exact ⟨x_71, v_10, rfl, ⟨by omega, by omega⟩, ⟨by omega, by omega⟩⟩)
  have h_66 := h_66.ext x_75 (Ne.symm (py_ne_arr hr_13 h_66))
  have h_27 := h_27.ext x_75 (Ne.symm (py_ne_arr hr_13 h_27))
  have ha_16 := ha_16.ext x_75 (Ne.symm (py_ne_arr hr_13 ha_16))
  have tq_76 := it_eq ha_16
  have tq_77 := va_eq h_74
  exact py_vret G0 hr hlk hw ⟨(VD.lev hq0 (by have hz := hq0.1; omega) (by have hz := hq0.1; omega) (by have hz := hq0.1; omega) (gfn_up ha_22 h_27 (by have hz := hq0.1; omega)) (by omega) (kp_f hKP (wt_9 hG Th).2.2.2.2.2.1 (by decide) (by decide) (fun _ => by decide))), hWF, hRP, hKP, hVO⟩ dX9_addLevel_58

def w_X9_addFamily : List Cond := .code yX9_addFamily cX9_addFamily 2 none :: ([Cond.fieldLink RX9 22 "HeadYear$Valley" "firstHeads" "[I", Cond.fieldLink RX9 38 "HeadYear$Valley" "families" "I", Cond.fieldLink RX9 25 "HeadYear$Valley" "firstLevel" "[I", Cond.fieldLink RX9 28 "HeadYear$Valley" "birth" "[I", Cond.fieldLink RX9 31 "HeadYear$Valley" "twin" "[I"] ++ (u_ws RX9 TX9 10 ++ ([])))
theorem in_X9_addFamily_X9 : ∀ w ∈ u_ws RX9 TX9 10, w ∈ w_X9_addFamily := fun _ h => List.mem_cons_of_mem _ (List.mem_append_right _ (List.mem_append_left _ h))
set_option maxHeartbeats 4000000 in
set_option maxRecDepth 100000 in
theorem c_X9_addFamily (l : Launch) (E : py_E) (G : wf_G) (L : List Nat) (f : py_F) (sz : Nat) (h : Nat) (a : Nat) (sb : rv_S) (hG : GT G) (hWF : WF E G L f) (Th : G.1 h = 10) (Ta : G.1 a = 36) (hp0 : va_f f h < 10 ∧ 0 ≤ it0 f a ∧ it0 f a ≤ 20 ∧ 0 ≤ it1 f a ∧ it1 f a ≤ 7) (hq0 : VD f G h sb) : Met l yX9_addFamily w_X9_addFamily ({ frames := 0, cells := 0, slots := 0, locals := 0 }) (py_Pc E [.ref h, .ref a] L f sz) (py_Qv E L f sz (fun L1 f1 => (VD f1 G h ((sb.1.1, sb.1.2 + 1), (sb.2.1, rv_set sb.2.2 sb.1.2 (it1 f a)))) ∧ WF E G L1 f1 ∧ RP E G f f1 ∧ KP G [10, 27, 25, 26] false f f1 ∧ VO G f f1 h)) 0 0 (va_A (va_pl L f) sz) := by
  refine Met.ofW (cc := cX9_addFamily) (maxL := 2) (ret := none) (by decide) rfl ?_
  intro p e s m args below meth c s₁ B hml hv
  obtain ⟨rfl, rfl, hw⟩ := py_start hv
  have G0 : CallFix p m c cX9_addFamily 2 s _ w_X9_addFamily RX9 := ⟨B.exec, B.bytes, hml, findClass_of_methodNamed B.named, atoms_spec (ws := w_X9_addFamily) B.pre⟩
  have hr := B.returns
  have hlk := B.notSynchronized
  have kcm1 : (-1 : Int32).toInt = -1 := rfl
  have kc0 : (0 : Int32).toInt = 0 := rfl
  have kc1 : (1 : Int32).toInt = 1 := rfl
  have kc2 : (2 : Int32).toInt = 2 := rfl
  have kc3 : (3 : Int32).toInt = 3 := rfl
  have hl := lv_entry ([.ref h, .ref a]) (n := 2) (Nat.le_of_ble_eq_true rfl)
  rw [lg_entry_eq]
  generalize (lg_sl ([.ref h, .ref a]) ++ List.replicate (2 - (lg_sl ([.ref h, .ref a])).length) Slot.unset).toArray = ls at hl ⊢
  have hl : lv_has ls 2 [(0, .ref h), (1, .ref a)] := hl
  have hRP : RP E G f f := RP.refl
  have hKP : KP G [10, 27, 25, 26] false f f := KP.refl
  have hVO : VO G f f h := VO.refl
  refine lv_aload_n G0.1 G0.2.1 dX9_addFamily_0 rfl (lv_at hl 0 rfl) ?_
  obtain ⟨t_1, t_2, t_3, t_4, t_5, t_6, t_7, t_8⟩ := wt_9 hG Th
  obtain ⟨v_9, v_10, hr_13, b_11, b_12⟩ := wg_9 hWF Th
  have tq_14 := va_eq hr_13
  refine py_get (C := RX9) (T := TX9) (N := 10) (k := 4) (v := .ref (G.2 h 4)) G0 hw in_X9_addFamily_X9 rfl hr_13 (by decide) (by decide +kernel) rfl dX9_addFamily_1 ?_
  refine lv_aload_n G0.1 G0.2.1 dX9_addFamily_4 rfl (lv_at hl 0 rfl) ?_
  refine py_get (C := RX9) (T := TX9) (N := 10) (k := 9) (v := .int v_10) G0 hw in_X9_addFamily_X9 rfl hr_13 (by decide) (by decide +kernel) rfl dX9_addFamily_5 ?_
  refine lv_aload_n G0.1 G0.2.1 dX9_addFamily_8 rfl (lv_at hl 1 rfl) ?_
  refine lv_iconst (v := 0) G0.1 G0.2.1 dX9_addFamily_9 (by decide) ?_
  obtain ⟨g_15, ha_16, hi_17⟩ := wf_arr (n := 4) (lo := (-2147483648)) (hi := 2147483647) hWF Ta (by decide) (fun _ => rfl)
  have tq_18 := it_eq ha_16
  have rg_19 : vp_in 0 4 := ti_in (by omega) (by omega)
  refine py_iald G0 hw ha_16 rg_19 dX9_addFamily_10 ?_
  refine lv_topi (fun x_20 ex_20 => ?_)
  have bx_20 := wf_free x_20
  have kx_20 : x_20.toInt = (g_15 0).toInt := by rw [ex_20]; rfl
  obtain ⟨g_21, ha_22, hi_23⟩ := wf_arr (n := 10) (lo := 0) (hi := 20) hWF t_5 (by decide) (fun _ => rfl)
  have rg_24 : vp_in v_10 10 := ti_in (by omega) (by omega)
  refine py_iast G0 hw ha_22 rg_24 dX9_addFamily_11 (fun f_25 H_26 locs h_27 x_28 hw => ?_)
  have hkw : KP G [27] false f f_25 := KP.refl.upd hWF x_28 t_5 (Or.inl (by decide))
  have hVO := hVO.upd hWF x_28 (Or.inr (by rw [t_5]; omega))
  have hKP := hKP.upd hWF x_28 t_5 (Or.inl (by decide))
  have hRP := hRP.trans (rp_upd hG hWF x_28 ha_22.2 h_27.2 (rp_code hG t_5 (by decide)) rfl)
  have hi_29 := wf_inu (k := (v_10 : Int32).toNatClampNeg) (x := x_20) hi_23 (by omega) (by omega)
  have hWF := wf_upd hWF h_27 x_28 (by rw [t_5]; exact ⟨_, rfl, hi_29⟩)
  have hr_13 := hr_13.ext x_28 (py_ne_arr hr_13 ha_22)
  have tq_30 := va_eq hr_13
  have ha_16 := ha_16.ext x_28 (wf_ne Ta t_5 (by decide))
  have tq_31 := it_eq ha_16
  have h5e : f_25 (G.2 h 5) = f (G.2 h 5) := (x_28 _ (hWF _ (by rw [(wt_9 hG Th).2.2.2.2.2.1]; decide)).1 (wf_ne (wt_9 hG Th).2.2.2.2.2.1 t_5 (by decide))).2
  refine lv_aload_n G0.1 G0.2.1 dX9_addFamily_12 rfl (lv_at hl 0 rfl) ?_
  refine py_get (C := RX9) (T := TX9) (N := 10) (k := 5) (v := .ref (G.2 h 5)) G0 hw in_X9_addFamily_X9 rfl hr_13 (by decide) (by decide +kernel) rfl dX9_addFamily_13 ?_
  refine lv_aload_n G0.1 G0.2.1 dX9_addFamily_16 rfl (lv_at hl 0 rfl) ?_
  refine py_get (C := RX9) (T := TX9) (N := 10) (k := 9) (v := .int v_10) G0 hw in_X9_addFamily_X9 rfl hr_13 (by decide) (by decide +kernel) rfl dX9_addFamily_17 ?_
  refine lv_aload_n G0.1 G0.2.1 dX9_addFamily_20 rfl (lv_at hl 1 rfl) ?_
  refine lv_iconst (v := 1) G0.1 G0.2.1 dX9_addFamily_21 (by decide) ?_
  have rg_32 : vp_in 1 4 := ti_in (by omega) (by omega)
  refine py_iald G0 hw ha_16 rg_32 dX9_addFamily_22 ?_
  refine lv_topi (fun x_33 ex_33 => ?_)
  have bx_33 := wf_free x_33
  have kx_33 : x_33.toInt = (g_15 1).toInt := by rw [ex_33]; rfl
  obtain ⟨g_34, ha_35, hi_36⟩ := wf_arr (n := 10) (lo := 0) (hi := 7) hWF t_6 (by decide) (fun _ => rfl)
  have rg_37 : vp_in v_10 10 := ti_in (by omega) (by omega)
  refine py_iast G0 hw ha_35 rg_37 dX9_addFamily_23 (fun f_38 H_39 locs h_40 x_41 hw => ?_)
  have hkw : KP G [25] false f_25 f_38 := KP.refl.upd hWF x_41 t_6 (Or.inl (by decide))
  have hVO := hVO.upd hWF x_41 (Or.inr (by rw [t_6]; omega))
  have hKP := hKP.upd hWF x_41 t_6 (Or.inl (by decide))
  have hRP := hRP.trans (rp_upd hG hWF x_41 ha_35.2 h_40.2 (rp_code hG t_6 (by decide)) rfl)
  have hi_42 := wf_inu (k := (v_10 : Int32).toNatClampNeg) (x := x_33) hi_36 (by omega) (by omega)
  have hWF := wf_upd hWF h_40 x_41 (by rw [t_6]; exact ⟨_, rfl, hi_42⟩)
  have hr_13 := hr_13.ext x_41 (py_ne_arr hr_13 ha_35)
  have tq_43 := va_eq hr_13
  have h_27 := h_27.ext x_41 (wf_ne t_5 t_6 (by decide))
  have ha_16 := ha_16.ext x_41 (wf_ne Ta t_6 (by decide))
  have tq_44 := it_eq ha_16
  refine lv_aload_n G0.1 G0.2.1 dX9_addFamily_24 rfl (lv_at hl 0 rfl) ?_
  refine py_get (C := RX9) (T := TX9) (N := 10) (k := 6) (v := .ref (G.2 h 6)) G0 hw in_X9_addFamily_X9 rfl hr_13 (by decide) (by decide +kernel) rfl dX9_addFamily_25 ?_
  refine lv_aload_n G0.1 G0.2.1 dX9_addFamily_28 rfl (lv_at hl 0 rfl) ?_
  refine py_get (C := RX9) (T := TX9) (N := 10) (k := 9) (v := .int v_10) G0 hw in_X9_addFamily_X9 rfl hr_13 (by decide) (by decide +kernel) rfl dX9_addFamily_29 ?_
  refine lv_aload_n G0.1 G0.2.1 dX9_addFamily_32 rfl (lv_at hl 1 rfl) ?_
  refine lv_iconst (v := 2) G0.1 G0.2.1 dX9_addFamily_33 (by decide) ?_
  have rg_45 : vp_in 2 4 := ti_in (by omega) (by omega)
  refine py_iald G0 hw ha_16 rg_45 dX9_addFamily_34 ?_
  refine lv_topi (fun x_46 ex_46 => ?_)
  have bx_46 := wf_free x_46
  obtain ⟨g_47, ha_48, hi_49⟩ := wf_arr (n := 10) (lo := (-2147483648)) (hi := 2147483647) hWF t_7 (by decide) (fun _ => rfl)
  have rg_50 : vp_in v_10 10 := ti_in (by omega) (by omega)
  refine py_iast G0 hw ha_48 rg_50 dX9_addFamily_35 (fun f_51 H_52 locs h_53 x_54 hw => ?_)
  have hVO := hVO.upd hWF x_54 (Or.inr (by rw [t_7]; omega))
  have hKP := hKP.upd hWF x_54 t_7 (Or.inl (by decide))
  have hRP := hRP.trans (rp_upd hG hWF x_54 ha_48.2 h_53.2 (rp_code hG t_7 (by decide)) rfl)
  have hi_55 := wf_inu (k := (v_10 : Int32).toNatClampNeg) (x := x_46) hi_49 (wf_free x_46).1 (wf_free x_46).2
  have hWF := wf_upd hWF h_53 x_54 (by rw [t_7]; exact ⟨_, rfl, hi_55⟩)
  have hr_13 := hr_13.ext x_54 (py_ne_arr hr_13 ha_48)
  have tq_56 := va_eq hr_13
  have h_40 := h_40.ext x_54 (wf_ne t_6 t_7 (by decide))
  have h_27 := h_27.ext x_54 (wf_ne t_5 t_7 (by decide))
  have ha_16 := ha_16.ext x_54 (wf_ne Ta t_7 (by decide))
  have tq_57 := it_eq ha_16
  refine lv_aload_n G0.1 G0.2.1 dX9_addFamily_36 rfl (lv_at hl 0 rfl) ?_
  refine py_get (C := RX9) (T := TX9) (N := 10) (k := 7) (v := .ref (G.2 h 7)) G0 hw in_X9_addFamily_X9 rfl hr_13 (by decide) (by decide +kernel) rfl dX9_addFamily_37 ?_
  refine lv_aload_n G0.1 G0.2.1 dX9_addFamily_40 rfl (lv_at hl 0 rfl) ?_
  refine py_get (C := RX9) (T := TX9) (N := 10) (k := 9) (v := .int v_10) G0 hw in_X9_addFamily_X9 rfl hr_13 (by decide) (by decide +kernel) rfl dX9_addFamily_41 ?_
  refine lv_aload_n G0.1 G0.2.1 dX9_addFamily_44 rfl (lv_at hl 1 rfl) ?_
  refine lv_iconst (v := 3) G0.1 G0.2.1 dX9_addFamily_45 (by decide) ?_
  have rg_58 : vp_in 3 4 := ti_in (by omega) (by omega)
  refine py_iald G0 hw ha_16 rg_58 dX9_addFamily_46 ?_
  refine lv_topi (fun x_59 ex_59 => ?_)
  have bx_59 := wf_free x_59
  obtain ⟨g_60, ha_61, hi_62⟩ := wf_arr (n := 10) (lo := (-2147483648)) (hi := 2147483647) hWF t_8 (by decide) (fun _ => rfl)
  have rg_63 : vp_in v_10 10 := ti_in (by omega) (by omega)
  refine py_iast G0 hw ha_61 rg_63 dX9_addFamily_47 (fun f_64 H_65 locs h_66 x_67 hw => ?_)
  have hVO := hVO.upd hWF x_67 (Or.inr (by rw [t_8]; omega))
  have hKP := hKP.upd hWF x_67 t_8 (Or.inl (by decide))
  have hRP := hRP.trans (rp_upd hG hWF x_67 ha_61.2 h_66.2 (rp_code hG t_8 (by decide)) rfl)
  have hi_68 := wf_inu (k := (v_10 : Int32).toNatClampNeg) (x := x_59) hi_62 (wf_free x_59).1 (wf_free x_59).2
  have hWF := wf_upd hWF h_66 x_67 (by rw [t_8]; exact ⟨_, rfl, hi_68⟩)
  have hr_13 := hr_13.ext x_67 (py_ne_arr hr_13 ha_61)
  have tq_69 := va_eq hr_13
  have h_40 := h_40.ext x_67 (wf_ne t_6 t_8 (by decide))
  have h_27 := h_27.ext x_67 (wf_ne t_5 t_8 (by decide))
  have ha_16 := ha_16.ext x_67 (wf_ne Ta t_8 (by decide))
  have tq_70 := it_eq ha_16
  refine lv_aload_n G0.1 G0.2.1 dX9_addFamily_48 rfl (lv_at hl 0 rfl) ?_
  refine lv_dup G0.1 G0.2.1 dX9_addFamily_49 rfl ?_
  refine py_get (C := RX9) (T := TX9) (N := 10) (k := 9) (v := .int v_10) G0 hw in_X9_addFamily_X9 rfl hr_13 (by decide) (by decide +kernel) rfl dX9_addFamily_50 ?_
  refine lv_iconst (v := 1) G0.1 G0.2.1 dX9_addFamily_53 (by decide) ?_
  refine lv_iadd G0.1 G0.2.1 dX9_addFamily_54 ?_
  refine lv_topi (fun x_71 ex_71 => ?_)
  first | have tx_71 := ti_add ex_71 (by omega) (by omega) | skip
  refine py_put (C := RX9) (T := TX9) (N := 10) (k := 9) (v := .int x_71) (fs' := [.ref (G.2 h 0), .ref (G.2 h 1), .ref (G.2 h 2), .ref (G.2 h 3), .ref (G.2 h 4), .ref (G.2 h 5), .ref (G.2 h 6), .ref (G.2 h 7), .int v_9, .int x_71]) (ty0 := tyX9) G0 hw tyX9_ok nmX9 in_X9_addFamily_X9 rfl hr_13 (by decide) (by decide +kernel) rfl rfl rfl rfl (Nat.le_of_ble_eq_true rfl) rfl dX9_addFamily_55 (fun f_72 H_73 locs h_74 x_75 hw => ?_)
  have hVO := hVO.upd hWF x_75 (Or.inl rfl)
  have hKP := hKP.upd hWF x_75 Th (Or.inl (by decide))
  have hRP := hRP.trans (rp_upd hG hWF x_75 hr_13.2 h_74.2 (rp_code hG Th (by decide)) rfl)
  have hWF := wf_upd hWF h_74 x_75 (by rw [Th]; exact ⟨v_9, x_71, rfl, ⟨by omega, by omega⟩, ⟨by omega, by omega⟩⟩)
  have h_66 := h_66.ext x_75 (Ne.symm (py_ne_arr hr_13 h_66))
  have h_40 := h_40.ext x_75 (Ne.symm (py_ne_arr hr_13 h_40))
  have h_27 := h_27.ext x_75 (Ne.symm (py_ne_arr hr_13 h_27))
  have ha_16 := ha_16.ext x_75 (Ne.symm (py_ne_arr hr_13 ha_16))
  have tq_76 := it_eq ha_16
  have tq_77 := va_eq h_74
  exact py_vret G0 hr hlk hw ⟨(VD.fam hq0 (by have hz := hq0.1; omega) (by have hz := hq0.1; omega) (by have hz := hq0.1; omega) (by rw [← gfn_kp h5e]; exact gfn_up ha_35 h_40 (by have hz := hq0.1; omega)) (by omega) (kp_f hKP (wt_9 hG Th).1 (by decide) (by decide) (fun _ => by decide))), hWF, hRP, hKP, hVO⟩ dX9_addFamily_58

def w_X9_firstFamiliesAt : List Cond := .code yX9_firstFamiliesAt cX9_firstFamiliesAt 4 (some .int) :: ([Cond.fieldLink RX9 38 "HeadYear$Valley" "families" "I", Cond.fieldLink RX9 25 "HeadYear$Valley" "firstLevel" "[I"] ++ (u_ws RX9 TX9 10 ++ ([])))
theorem in_X9_firstFamiliesAt_X9 : ∀ w ∈ u_ws RX9 TX9 10, w ∈ w_X9_firstFamiliesAt := fun _ h => List.mem_cons_of_mem _ (List.mem_append_right _ (List.mem_append_left _ h))
set_option maxHeartbeats 4000000 in
set_option maxRecDepth 100000 in
theorem c_X9_firstFamiliesAt (l : Launch) (E : py_E) (G : wf_G) (L : List Nat) (f : py_F) (sz : Nat) (h : Nat) (a : Int32) (sb : rv_S) (hG : GT G) (hWF : WF E G L f) (Th : G.1 h = 10) (hq0 : VD f G h sb) : Met l yX9_firstFamiliesAt w_X9_firstFamiliesAt ({ frames := 0, cells := 0, slots := 0, locals := 0 }) (py_Pc E [.ref h, .int a] L f sz) (py_Qi E L f sz (fun r L1 f1 => (r.toInt = rv_cn sb.2.2 a.toInt sb.1.2.toNat) ∧ L = L1 ∧ f = f1)) 0 0 (va_A (va_pl L f) sz) := by
  refine Met.ofW (cc := cX9_firstFamiliesAt) (maxL := 4) (ret := (some .int)) (by decide) rfl ?_
  intro p e s m args below meth c s₁ B hml hv
  obtain ⟨rfl, rfl, hw⟩ := py_start hv
  have G0 : CallFix p m c cX9_firstFamiliesAt 4 s _ w_X9_firstFamiliesAt RX9 := ⟨B.exec, B.bytes, hml, findClass_of_methodNamed B.named, atoms_spec (ws := w_X9_firstFamiliesAt) B.pre⟩
  have hr := B.returns
  have hlk := B.notSynchronized
  have kcm1 : (-1 : Int32).toInt = -1 := rfl
  have kc0 : (0 : Int32).toInt = 0 := rfl
  have kc1 : (1 : Int32).toInt = 1 := rfl
  have hl := lv_entry ([.ref h, .int a]) (n := 4) (Nat.le_of_ble_eq_true rfl)
  rw [lg_entry_eq]
  generalize (lg_sl ([.ref h, .int a]) ++ List.replicate (4 - (lg_sl ([.ref h, .int a])).length) Slot.unset).toArray = ls at hl ⊢
  have hl : lv_has ls 4 [(0, .ref h), (1, .int a)] := hl
  have hRP : RP E G f f := RP.refl
  have hV1 := hq0.1
  have hV2 := hq0.1.2
  obtain ⟨t_1, t_2, t_3, t_4, t_5, t_6, t_7, t_8⟩ := wt_9 hG Th
  obtain ⟨v_9, v_10, hr_13, b_11, b_12⟩ := wg_9 hWF Th
  have tq_14 := va_eq hr_13
  refine lv_iconst (v := 0) G0.1 G0.2.1 dX9_firstFamiliesAt_0 (by decide) ?_
  refine lv_istore_n (lv' := [(2, .int 0), (0, .ref h), (1, .int a)]) G0.1 G0.2.1 dX9_firstFamiliesAt_1 rfl hl (by decide) rfl (fun ls hl => ?_)
  refine lv_iconst (v := 0) G0.1 G0.2.1 dX9_firstFamiliesAt_2 (by decide) ?_
  refine lv_istore_n (lv' := [(3, .int 0), (2, .int 0), (0, .ref h), (1, .int a)]) G0.1 G0.2.1 dX9_firstFamiliesAt_3 rfl hl (by decide) rfl (fun ls hl => ?_)
  have lo_4 : ∀ n_4 : Nat, ∀ (v_15 : Int32) (v_16 : Int32) (H_j4 : Heap) (locs : List Loc) (ls : Array Slot), (2147483647 - v_15.toInt).toNat = n_4 → (0 ≤ v_15.toInt ∧ v_15.toInt ≤ 2147483647) → (0 ≤ v_16.toInt ∧ v_16.toInt ≤ 2147483647) → (v_16.toInt ≤ v_15.toInt ∧ v_15.toInt ≤ sb.1.2) → (v_16.toInt = rv_cn sb.2.2 a.toInt v_15.toInt.toNat) → py_W E (va_A (va_pl L f) s.heap.size) s L f H_j4 locs → lv_has ls 4 [(3, .int v_15), (2, .int v_16), (0, .ref h), (1, .int a)] → W p l e (headSpec w_X9_firstFamiliesAt ({ frames := 0, cells := 0, slots := 0, locals := 0 })).room s m ([.ref h, .int a] : List Value).toArray below meth c H_j4 locs 0 0 (MQ below (py_Qi E L f s.heap.size (fun r L1 f1 => (r.toInt = rv_cn sb.2.2 a.toInt sb.1.2.toNat) ∧ L = L1 ∧ f = f1)) ([.ref h, .int a] : List Value).toArray s 0 0 (va_A (va_pl L f) s.heap.size)) (F0 m 4 ls []) := by
    intro n_4
    induction n_4 using Nat.strongRecOn with
    | _ n_4 ih_4 =>
      intro v_15 v_16 H_j4 locs ls hn_4 bv_15 bv_16 iv0 iv1 hw hl
      refine lv_iload_n G0.1 G0.2.1 dX9_firstFamiliesAt_4 rfl (lv_at hl 0 rfl) ?_
      refine lv_aload_n G0.1 G0.2.1 dX9_firstFamiliesAt_5 rfl (lv_at hl 2 rfl) ?_
      refine py_get (C := RX9) (T := TX9) (N := 10) (k := 9) (v := .int v_10) G0 hw in_X9_firstFamiliesAt_X9 rfl hr_13 (by decide) (by decide +kernel) rfl dX9_firstFamiliesAt_6 ?_
      refine lv_icmp_ge (tgt := 36) G0.1 G0.2.1 dX9_firstFamiliesAt_9 (by decide) (fun c_17 => ?_) (fun c_17 => ?_)
      · skip
        have tc_17 := ti_le c_17
        refine lv_iload_n G0.1 G0.2.1 dX9_firstFamiliesAt_36 rfl (lv_at hl 1 rfl) ?_
        exact py_iret G0 hr rfl hlk hw ⟨(by rw [iv1, show v_15.toInt = sb.1.2 by omega]), rfl, rfl⟩ dX9_firstFamiliesAt_37
      · skip
        have tc_17 := ti_nle c_17
        refine lv_iload_n G0.1 G0.2.1 dX9_firstFamiliesAt_12 rfl (lv_at hl 1 rfl) ?_
        refine lv_aload_n G0.1 G0.2.1 dX9_firstFamiliesAt_13 rfl (lv_at hl 2 rfl) ?_
        refine py_get (C := RX9) (T := TX9) (N := 10) (k := 5) (v := .ref (G.2 h 5)) G0 hw in_X9_firstFamiliesAt_X9 rfl hr_13 (by decide) (by decide +kernel) rfl dX9_firstFamiliesAt_14 ?_
        refine lv_iload_n G0.1 G0.2.1 dX9_firstFamiliesAt_17 rfl (lv_at hl 0 rfl) ?_
        obtain ⟨g_18, ha_19, hi_20⟩ := wf_arr (n := 10) (lo := 0) (hi := 7) hWF t_6 (by decide) (fun _ => rfl)
        have rg_21 : vp_in v_15 10 := ti_in (by omega) (by omega)
        refine py_iald G0 hw ha_19 rg_21 dX9_firstFamiliesAt_18 ?_
        refine lv_topi (fun x_22 ex_22 => ?_)
        have bx_22 := ti_at hi_20 rg_21 ex_22
        have hho : x_22.toInt = sb.2.2 v_15.toInt := VD.fam_ld hq0 ha_19 ex_22 (by omega) (by omega)
        refine lv_iload_n G0.1 G0.2.1 dX9_firstFamiliesAt_19 rfl (lv_at hl 3 rfl) ?_
        refine lv_icmp_ne (tgt := 27) G0.1 G0.2.1 dX9_firstFamiliesAt_20 (by decide) (fun c_23 => ?_) (fun c_23 => ?_)
        · skip
          have tc_23 := ti_ne c_23
          refine lv_iconst (v := 0) G0.1 G0.2.1 dX9_firstFamiliesAt_27 (by decide) ?_
          refine lv_iadd G0.1 G0.2.1 dX9_firstFamiliesAt_28 ?_
          refine lv_topi (fun x_24 ex_24 => ?_)
          first | have tx_24 := ti_add ex_24 (by omega) (by omega) | skip
          refine lv_istore_n (lv' := [(2, .int x_24), (3, .int v_15), (0, .ref h), (1, .int a)]) G0.1 G0.2.1 dX9_firstFamiliesAt_29 rfl hl (by decide) rfl (fun ls hl => ?_)
          obtain ⟨x_25, ex_25⟩ : ∃ y : Int32, y = v_15 + 1 := ⟨_, rfl⟩
          first | have tx_25 := ti_add ex_25 (by omega) (by omega) | skip
          refine lv_iinc (v := x_25) (lv' := [(3, .int x_25), (2, .int x_24), (0, .ref h), (1, .int a)]) G0.1 G0.2.1 dX9_firstFamiliesAt_30 hl (k := 1) rfl (show _ + (1 : Int32) = _ from ex_25.symm) (by decide) rfl (fun ls hl => ?_)
          refine lv_goto (tgt := 4) G0.1 G0.2.1 dX9_firstFamiliesAt_33 (by decide) ?_
          exact ih_4 ((2147483647 - x_25.toInt).toNat) (by omega) x_25 x_24 _ _ ls rfl ⟨by omega, by omega⟩ ⟨by omega, by omega⟩ (by first | omega | (intros; omega)) (rv_cn_st iv1 (by omega) (by omega) (by first | exact Or.inl ⟨by omega, by omega⟩ | exact Or.inr ⟨by omega, by omega⟩)) hw (lv_sub hl [0, 1, 2, 3] rfl)
        · skip
          have tc_23 := ti_eq c_23
          refine lv_iconst (v := 1) G0.1 G0.2.1 dX9_firstFamiliesAt_23 (by decide) ?_
          refine lv_goto (tgt := 28) G0.1 G0.2.1 dX9_firstFamiliesAt_24 (by decide) ?_
          refine lv_iadd G0.1 G0.2.1 dX9_firstFamiliesAt_28 ?_
          refine lv_topi (fun x_26 ex_26 => ?_)
          first | have tx_26 := ti_add ex_26 (by omega) (by omega) | skip
          refine lv_istore_n (lv' := [(2, .int x_26), (3, .int v_15), (0, .ref h), (1, .int a)]) G0.1 G0.2.1 dX9_firstFamiliesAt_29 rfl hl (by decide) rfl (fun ls hl => ?_)
          obtain ⟨x_27, ex_27⟩ : ∃ y : Int32, y = v_15 + 1 := ⟨_, rfl⟩
          first | have tx_27 := ti_add ex_27 (by omega) (by omega) | skip
          refine lv_iinc (v := x_27) (lv' := [(3, .int x_27), (2, .int x_26), (0, .ref h), (1, .int a)]) G0.1 G0.2.1 dX9_firstFamiliesAt_30 hl (k := 1) rfl (show _ + (1 : Int32) = _ from ex_27.symm) (by decide) rfl (fun ls hl => ?_)
          refine lv_goto (tgt := 4) G0.1 G0.2.1 dX9_firstFamiliesAt_33 (by decide) ?_
          exact ih_4 ((2147483647 - x_27.toInt).toNat) (by omega) x_27 x_26 _ _ ls rfl ⟨by omega, by omega⟩ ⟨by omega, by omega⟩ (by first | omega | (intros; omega)) (rv_cn_st iv1 (by omega) (by omega) (by first | exact Or.inl ⟨by omega, by omega⟩ | exact Or.inr ⟨by omega, by omega⟩)) hw (lv_sub hl [0, 1, 2, 3] rfl)
  exact lo_4 _ 0 0 _ _ ls rfl ⟨by omega, by omega⟩ ⟨by omega, by omega⟩ (by first | omega | (intros; omega)) (by rfl) hw (lv_sub hl [0, 1, 2, 3] rfl)

def w_X9_isWhole : List Cond := .code yX9_isWhole cX9_isWhole 3 (some .boolean) :: ([Cond.fieldLink RX9 34 "HeadYear$Valley" "levels" "I", Cond.fieldLink RX9 38 "HeadYear$Valley" "families" "I", Cond.fieldLink RX9 25 "HeadYear$Valley" "firstLevel" "[I", Cond.methodLink RX9 41 yX9_firstFamiliesAt, Cond.instanceMethod yX9_firstFamiliesAt, Cond.selects RX9 yX9_firstFamiliesAt yX9_firstFamiliesAt, Cond.initialized RX9, Cond.fieldLink RX9 9 "HeadYear$Valley" "huts" "[I"] ++ (u_ws RX9 TX9 10 ++ (w_X9_firstFamiliesAt ++ ([]))))
theorem in_X9_isWhole_X9 : ∀ w ∈ u_ws RX9 TX9 10, w ∈ w_X9_isWhole := fun _ h => List.mem_cons_of_mem _ (List.mem_append_right _ (List.mem_append_left _ h))
theorem gg_X9_isWhole_X9_firstFamiliesAt : GoodIn w_X9_isWhole w_X9_firstFamiliesAt := goodIn_sub (fun _ h => List.mem_cons_of_mem _ (List.mem_append_right _ (List.mem_append_right _ (List.mem_append_left _ h)))) (by decide +kernel)
theorem g_X9_isWhole_X9_firstFamiliesAt_41 : GoodIn w_X9_isWhole (wsV RX9 41 RX9 yX9_firstFamiliesAt w_X9_firstFamiliesAt) := goodIn_app (goodIn_of _ (by decide +kernel)) gg_X9_isWhole_X9_firstFamiliesAt
set_option maxHeartbeats 4000000 in
set_option maxRecDepth 100000 in
theorem c_X9_isWhole (l : Launch) (E : py_E) (G : wf_G) (L : List Nat) (f : py_F) (sz : Nat) (h : Nat) (sb : rv_S) (hG : GT G) (hWF : WF E G L f) (Th : G.1 h = 10) (hq0 : VD f G h sb) : Met l yX9_isWhole w_X9_isWhole ({ frames := 1, cells := 0, slots := 0, locals := 23 }) (py_Pc E [.ref h] L f sz) (py_Qi E L f sz (fun r L1 f1 => (0 ≤ r.toInt ∧ r.toInt ≤ 1) ∧ (r.toInt ≠ 0 → 2 ≤ va_l f1 h) ∧ (r.toInt ≠ 0 → rv_hd sb) ∧ (r.toInt = 0 → ¬ rv_hd sb) ∧ L = L1 ∧ f = f1)) 0 0 (va_A (va_pl L f) sz) := by
  refine Met.ofW (cc := cX9_isWhole) (maxL := 3) (ret := (some .boolean)) (by decide) rfl ?_
  intro p e s m args below meth c s₁ B hml hv
  obtain ⟨rfl, rfl, hw⟩ := py_start hv
  have G0 : CallFix p m c cX9_isWhole 3 s _ w_X9_isWhole RX9 := ⟨B.exec, B.bytes, hml, findClass_of_methodNamed B.named, atoms_spec (ws := w_X9_isWhole) B.pre⟩
  have hr := B.returns
  have hlk := B.notSynchronized
  have kcm1 : (-1 : Int32).toInt = -1 := rfl
  have kc0 : (0 : Int32).toInt = 0 := rfl
  have kc1 : (1 : Int32).toInt = 1 := rfl
  have kc2 : (2 : Int32).toInt = 2 := rfl
  have hl := lv_entry ([.ref h]) (n := 3) (Nat.le_of_ble_eq_true rfl)
  rw [lg_entry_eq]
  generalize (lg_sl ([.ref h]) ++ List.replicate (3 - (lg_sl ([.ref h])).length) Slot.unset).toArray = ls at hl ⊢
  have hl : lv_has ls 3 [(0, .ref h)] := hl
  have hRP : RP E G f f := RP.refl
  have hV1 := hq0.1
  refine lv_aload_n G0.1 G0.2.1 dX9_isWhole_0 rfl (lv_at hl 0 rfl) ?_
  obtain ⟨t_1, t_2, t_3, t_4, t_5, t_6, t_7, t_8⟩ := wt_9 hG Th
  obtain ⟨v_9, v_10, hr_13, b_11, b_12⟩ := wg_9 hWF Th
  have tq_14 := va_eq hr_13
  refine py_get (C := RX9) (T := TX9) (N := 10) (k := 8) (v := .int v_9) G0 hw in_X9_isWhole_X9 rfl hr_13 (by decide) (by decide +kernel) rfl dX9_isWhole_1 ?_
  refine lv_iconst (v := 2) G0.1 G0.2.1 dX9_isWhole_4 (by decide) ?_
  refine lv_icmp_lt (tgt := 16) G0.1 G0.2.1 dX9_isWhole_5 (by decide) (fun c_15 => ?_) (fun c_15 => ?_)
  · skip
    have tc_15 := ti_lt c_15
    refine lv_iconst (v := 0) G0.1 G0.2.1 dX9_isWhole_16 (by decide) ?_
    exact py_iret G0 hr rfl hlk hw ⟨⟨by omega, by omega⟩, (by first | omega | (intro q; omega)), (fun q => absurd q (by omega)), (fun _ hd => by have h1 := hd.1; have h2 := hd.2.1; omega), rfl, rfl⟩ dX9_isWhole_17
  · skip
    have tc_15 := ti_nlt c_15
    refine lv_aload_n G0.1 G0.2.1 dX9_isWhole_8 rfl (lv_at hl 0 rfl) ?_
    refine py_get (C := RX9) (T := TX9) (N := 10) (k := 9) (v := .int v_10) G0 hw in_X9_isWhole_X9 rfl hr_13 (by decide) (by decide +kernel) rfl dX9_isWhole_9 ?_
    refine lv_iconst (v := 1) G0.1 G0.2.1 dX9_isWhole_12 (by decide) ?_
    refine lv_icmp_ge (tgt := 18) G0.1 G0.2.1 dX9_isWhole_13 (by decide) (fun c_16 => ?_) (fun c_16 => ?_)
    · skip
      have tc_16 := ti_le c_16
      refine lv_iconst (v := 0) G0.1 G0.2.1 dX9_isWhole_18 (by decide) ?_
      refine lv_istore_n (lv' := [(1, .int 0), (0, .ref h)]) G0.1 G0.2.1 dX9_isWhole_19 rfl hl (by decide) rfl (fun ls hl => ?_)
      have lo_20 : ∀ n_20 : Nat, ∀ (v_17 : Int32) (H_j20 : Heap) (locs : List Loc) (ls : Array Slot), (2147483647 - v_17.toInt).toNat = n_20 → (0 ≤ v_17.toInt ∧ v_17.toInt ≤ 2147483647) → (∀ i : Int, 0 ≤ i → i < v_17.toInt → sb.2.2 i < sb.1.1 ∧ rv_cn sb.2.2 (sb.2.2 i) sb.1.2.toNat ≤ sb.2.1 (sb.2.2 i)) → py_W E (va_A (va_pl L f) s.heap.size) s L f H_j20 locs → lv_has ls 3 [(1, .int v_17), (0, .ref h)] → W p l e (headSpec w_X9_isWhole ({ frames := 1, cells := 0, slots := 0, locals := 23 })).room s m ([.ref h] : List Value).toArray below meth c H_j20 locs 0 0 (MQ below (py_Qi E L f s.heap.size (fun r L1 f1 => (0 ≤ r.toInt ∧ r.toInt ≤ 1) ∧ (r.toInt ≠ 0 → 2 ≤ va_l f1 h) ∧ (r.toInt ≠ 0 → rv_hd sb) ∧ (r.toInt = 0 → ¬ rv_hd sb) ∧ L = L1 ∧ f = f1)) ([.ref h] : List Value).toArray s 0 0 (va_A (va_pl L f) s.heap.size)) (F0 m 20 ls []) := by
        intro n_20
        induction n_20 using Nat.strongRecOn with
        | _ n_20 ih_20 =>
          intro v_17 H_j20 locs ls hn_20 bv_17 iv0 hw hl
          refine lv_iload_n G0.1 G0.2.1 dX9_isWhole_20 rfl (lv_at hl 0 rfl) ?_
          refine lv_aload_n G0.1 G0.2.1 dX9_isWhole_21 rfl (lv_at hl 1 rfl) ?_
          refine py_get (C := RX9) (T := TX9) (N := 10) (k := 9) (v := .int v_10) G0 hw in_X9_isWhole_X9 rfl hr_13 (by decide) (by decide +kernel) rfl dX9_isWhole_22 ?_
          refine lv_icmp_ge (tgt := 65) G0.1 G0.2.1 dX9_isWhole_25 (by decide) (fun c_18 => ?_) (fun c_18 => ?_)
          · skip
            have tc_18 := ti_le c_18
            refine lv_iconst (v := 1) G0.1 G0.2.1 dX9_isWhole_65 (by decide) ?_
            exact py_iret G0 hr rfl hlk hw ⟨⟨by omega, by omega⟩, (by first | omega | (intro q; omega)), (fun _ => ⟨by omega, by omega, fun i h0 h1 => iv0 i h0 (by omega)⟩), (fun q => absurd q (by omega)), rfl, rfl⟩ dX9_isWhole_66
          · skip
            have tc_18 := ti_nle c_18
            refine lv_aload_n G0.1 G0.2.1 dX9_isWhole_28 rfl (lv_at hl 1 rfl) ?_
            refine py_get (C := RX9) (T := TX9) (N := 10) (k := 5) (v := .ref (G.2 h 5)) G0 hw in_X9_isWhole_X9 rfl hr_13 (by decide) (by decide +kernel) rfl dX9_isWhole_29 ?_
            refine lv_iload_n G0.1 G0.2.1 dX9_isWhole_32 rfl (lv_at hl 0 rfl) ?_
            obtain ⟨g_19, ha_20, hi_21⟩ := wf_arr (n := 10) (lo := 0) (hi := 7) hWF t_6 (by decide) (fun _ => rfl)
            have rg_22 : vp_in v_17 10 := ti_in (by omega) (by omega)
            refine py_iald G0 hw ha_20 rg_22 dX9_isWhole_33 ?_
            refine lv_topi (fun x_23 ex_23 => ?_)
            have bx_23 := ti_at hi_21 rg_22 ex_23
            have hho : x_23.toInt = sb.2.2 v_17.toInt := VD.fam_ld hq0 ha_20 ex_23 (by omega) (by omega)
            refine lv_istore_n (lv' := [(2, .int x_23), (1, .int v_17), (0, .ref h)]) G0.1 G0.2.1 dX9_isWhole_34 rfl hl (by decide) rfl (fun ls hl => ?_)
            refine lv_iload_n G0.1 G0.2.1 dX9_isWhole_35 rfl (lv_at hl 0 rfl) ?_
            refine lv_aload_n G0.1 G0.2.1 dX9_isWhole_36 rfl (lv_at hl 2 rfl) ?_
            refine py_get (C := RX9) (T := TX9) (N := 10) (k := 8) (v := .int v_9) G0 hw in_X9_isWhole_X9 rfl hr_13 (by decide) (by decide +kernel) rfl dX9_isWhole_37 ?_
            refine lv_icmp_ge (tgt := 57) G0.1 G0.2.1 dX9_isWhole_40 (by decide) (fun c_24 => ?_) (fun c_24 => ?_)
            · skip
              have tc_24 := ti_le c_24
              refine lv_iconst (v := 0) G0.1 G0.2.1 dX9_isWhole_57 (by decide) ?_
              exact py_iret G0 hr rfl hlk hw ⟨⟨by omega, by omega⟩, (by first | omega | (intro q; omega)), (fun q => absurd q (by omega)), (fun _ hd => by have h1 := hd.2.2 v_17.toInt (by omega) (by omega); rw [← hho] at h1; obtain ⟨h2, h3⟩ := h1; omega), rfl, rfl⟩ dX9_isWhole_58
            · skip
              have tc_24 := ti_nle c_24
              refine lv_aload_n G0.1 G0.2.1 dX9_isWhole_43 rfl (lv_at hl 2 rfl) ?_
              refine lv_iload_n G0.1 G0.2.1 dX9_isWhole_44 rfl (lv_at hl 0 rfl) ?_
              refine py_calli hw (va_runV (As := [.int x_23]) (rest := []) G0 (c_X9_firstFamiliesAt l E G L f H_j20.size h x_23 sb hG hWF Th hq0) (cwV 1 G0.2.2.2.2 g_X9_isWhole_X9_firstFamiliesAt_41 rfl rfl rfl (by decide +kernel) ⟨(Nat.le_of_ble_eq_true rfl), (Nat.le_of_ble_eq_true rfl)⟩) (py_preV hw (C := RX9) (T := TX9) (N := 10) rfl hr_13) rfl rfl hl.1 rfl (lv_room (Nat.le_of_ble_eq_true rfl)) dX9_isWhole_45 ⟨(Nat.le_of_ble_eq_true rfl), (Nat.le_of_ble_eq_true rfl)⟩) (fun r_29 L_25 f_26 H_27 locs hp_28 hw => ?_)
              obtain ⟨en_30, rfl, rfl⟩ := hp_28
              have br_29 := wf_free r_29
              refine lv_aload_n G0.1 G0.2.1 dX9_isWhole_48 rfl (lv_at hl 2 rfl) ?_
              refine py_get (C := RX9) (T := TX9) (N := 10) (k := 0) (v := .ref (G.2 h 0)) G0 hw in_X9_isWhole_X9 rfl hr_13 (by decide) (by decide +kernel) rfl dX9_isWhole_49 ?_
              refine lv_iload_n G0.1 G0.2.1 dX9_isWhole_52 rfl (lv_at hl 0 rfl) ?_
              obtain ⟨g_31, ha_32, hi_33⟩ := wf_arr (n := 8) (lo := (-2147483648)) (hi := 2147483647) hWF t_1 (by decide) (fun _ => rfl)
              have rg_34 : vp_in x_23 8 := ti_in (by omega) (by omega)
              refine py_iald G0 hw ha_32 rg_34 dX9_isWhole_53 ?_
              refine lv_topi (fun x_35 ex_35 => ?_)
              have bx_35 := wf_free x_35
              have hhu : x_35.toInt = sb.2.1 x_23.toInt := VD.lev_ld hq0 ha_32 ex_35 (by omega) (by omega)
              refine lv_icmp_le (tgt := 59) G0.1 G0.2.1 dX9_isWhole_54 (by decide) (fun c_36 => ?_) (fun c_36 => ?_)
              · skip
                have tc_36 := ti_le c_36
                obtain ⟨x_37, ex_37⟩ : ∃ y : Int32, y = v_17 + 1 := ⟨_, rfl⟩
                first | have tx_37 := ti_add ex_37 (by omega) (by omega) | skip
                refine lv_iinc (v := x_37) (lv' := [(1, .int x_37), (2, .int x_23), (0, .ref h)]) G0.1 G0.2.1 dX9_isWhole_59 hl (k := 1) rfl (show _ + (1 : Int32) = _ from ex_37.symm) (by decide) rfl (fun ls hl => ?_)
                refine lv_goto (tgt := 20) G0.1 G0.2.1 dX9_isWhole_62 (by decide) ?_
                exact ih_20 ((2147483647 - x_37.toInt).toNat) (by omega) x_37 _ _ ls rfl ⟨by omega, by omega⟩ (fun i h0 h1 => if hz : i < v_17.toInt then iv0 i h0 hz else by obtain rfl : i = v_17.toInt := (by omega); rw [← hho]; exact ⟨by omega, by omega⟩) hw (lv_sub hl [0, 2] rfl)
              · skip
                have tc_36 := ti_nle c_36
                refine lv_iconst (v := 0) G0.1 G0.2.1 dX9_isWhole_57 (by decide) ?_
                exact py_iret G0 hr rfl hlk hw ⟨⟨by omega, by omega⟩, (by first | omega | (intro q; omega)), (fun q => absurd q (by omega)), (fun _ hd => by have h1 := hd.2.2 v_17.toInt (by omega) (by omega); rw [← hho] at h1; obtain ⟨h2, h3⟩ := h1; omega), rfl, rfl⟩ dX9_isWhole_58
      exact lo_20 _ 0 _ _ ls rfl ⟨by omega, by omega⟩ (fun i h0 h1 => absurd h1 (by omega)) hw (lv_sub hl [0, 1] rfl)
    · skip
      have tc_16 := ti_nle c_16
      refine lv_iconst (v := 0) G0.1 G0.2.1 dX9_isWhole_16 (by decide) ?_
      exact py_iret G0 hr rfl hlk hw ⟨⟨by omega, by omega⟩, (by first | omega | (intro q; omega)), (fun q => absurd q (by omega)), (fun _ hd => by have h1 := hd.1; have h2 := hd.2.1; omega), rfl, rfl⟩ dX9_isWhole_17

def w_X10_itemOf : List Cond := .code yX10_itemOf cX10_itemOf 3 (some .int) :: ([Cond.fieldLink RX10 87 "HeadYear$ValleyReader" "LETTERS" "[C"] ++ ([]))
set_option maxHeartbeats 4000000 in
set_option maxRecDepth 100000 in
theorem c_X10_itemOf0 (l : Launch) (E : py_E) (G : wf_G) (L : List Nat) (f : py_F) (sz : Nat) (a : Int32) (ca : Int) (hG : GT G) (hWF : WF E G L f) (hp0 : a.toInt = ca) : Met l yX10_itemOf w_X10_itemOf ({ frames := 0, cells := 0, slots := 0, locals := 0 }) (py_Pc E [.int a, .int 0] L f sz) (py_Qi E L f sz (fun r L1 f1 => ((-1) ≤ r.toInt ∧ r.toInt ≤ 3) ∧ (r.toInt ≠ -1 → a.toInt ≠ 0) ∧ (r.toInt = rv_ix 1 ca) ∧ L = L1 ∧ f = f1)) 0 0 (va_A (va_pl L f) sz) := by
  refine Met.ofW (cc := cX10_itemOf) (maxL := 3) (ret := (some .int)) (by decide) rfl ?_
  intro p e s m args below meth c s₁ B hml hv
  obtain ⟨rfl, rfl, hw⟩ := py_start hv
  have G0 : CallFix p m c cX10_itemOf 3 s _ w_X10_itemOf RX10 := ⟨B.exec, B.bytes, hml, findClass_of_methodNamed B.named, atoms_spec (ws := w_X10_itemOf) B.pre⟩
  have hr := B.returns
  have hlk := B.notSynchronized
  have kcm1 : (-1 : Int32).toInt = -1 := rfl
  have kc0 : (0 : Int32).toInt = 0 := rfl
  have kc1 : (1 : Int32).toInt = 1 := rfl
  have kc4 : (4 : Int32).toInt = 4 := rfl
  have hl := lv_entry ([.int a, .int 0]) (n := 3) (Nat.le_of_ble_eq_true rfl)
  rw [lg_entry_eq]
  generalize (lg_sl ([.int a, .int 0]) ++ List.replicate (3 - (lg_sl ([.int a, .int 0])).length) Slot.unset).toArray = ls at hl ⊢
  have hl : lv_has ls 3 [(0, .int a), (1, .int 0)] := hl
  have hRP : RP E G f f := RP.refl
  refine lv_iconst (v := 0) G0.1 G0.2.1 dX10_itemOf_0 (by decide) ?_
  refine lv_istore_n (lv' := [(2, .int 0), (0, .int a), (1, .int 0)]) G0.1 G0.2.1 dX10_itemOf_1 rfl hl (by decide) rfl (fun ls hl => ?_)
  have lo_2 : ∀ n_2 : Nat, ∀ (v_1 : Int32) (H_j2 : Heap) (locs : List Loc) (ls : Array Slot), (2147483647 - v_1.toInt).toNat = n_2 → (0 ≤ v_1.toInt ∧ v_1.toInt ≤ 4) → (∀ j : Int, 0 ≤ j → j < v_1.toInt → rv_ix 1 ca ≠ j) → py_W E (va_A (va_pl L f) s.heap.size) s L f H_j2 locs → lv_has ls 3 [(2, .int v_1), (0, .int a), (1, .int 0)] → W p l e (headSpec w_X10_itemOf ({ frames := 0, cells := 0, slots := 0, locals := 0 })).room s m ([.int a, .int 0] : List Value).toArray below meth c H_j2 locs 0 0 (MQ below (py_Qi E L f s.heap.size (fun r L1 f1 => ((-1) ≤ r.toInt ∧ r.toInt ≤ 3) ∧ (r.toInt ≠ -1 → a.toInt ≠ 0) ∧ (r.toInt = rv_ix 1 ca) ∧ L = L1 ∧ f = f1)) ([.int a, .int 0] : List Value).toArray s 0 0 (va_A (va_pl L f) s.heap.size)) (F0 m 2 ls []) := by
    intro n_2
    induction n_2 using Nat.strongRecOn with
    | _ n_2 ih_2 =>
      intro v_1 H_j2 locs ls hn_2 bv_1 iv0 hw hl
      refine lv_iload_n G0.1 G0.2.1 dX10_itemOf_2 rfl (lv_at hl 0 rfl) ?_
      refine lv_iconst (v := 4) G0.1 G0.2.1 dX10_itemOf_3 (by decide) ?_
      refine lv_icmp_ge (tgt := 26) G0.1 G0.2.1 dX10_itemOf_4 (by decide) (fun c_2 => ?_) (fun c_2 => ?_)
      · skip
        have tc_2 := ti_le c_2
        refine lv_iconst (v := (-1)) G0.1 G0.2.1 dX10_itemOf_26 (by decide) ?_
        exact py_iret G0 hr rfl hlk hw ⟨⟨by omega, by omega⟩, (fun hr => absurd kcm1 hr), (tb_no1 (iv0 0 (by omega) (by omega)) (iv0 1 (by omega) (by omega)) (iv0 2 (by omega) (by omega)) (iv0 3 (by omega) (by omega))), rfl, rfl⟩ dX10_itemOf_27
      · skip
        have tc_2 := ti_nle c_2
        obtain ⟨st_3, z_4, T_5⟩ := hw.2.2.2.2.2.2.1
        refine va_gets (C := "HeadYear$ValleyReader") G0.1 G0.2.1 z_4 hw.2.2.2.1 G0.2.2.2.1 (G0.2.2.2.2 (Cond.fieldLink RX10 87 "HeadYear$ValleyReader" "LETTERS" "[C") (by decide +kernel)) (fun _ h => h) dX10_itemOf_7 ?_
        refine lv_iload_n G0.1 G0.2.1 dX10_itemOf_10 rfl (lv_at hl 2 rfl) ?_
        refine lv_iload_n G0.1 G0.2.1 dX10_itemOf_11 rfl (lv_at hl 0 rfl) ?_
        refine lv_iadd G0.1 G0.2.1 dX10_itemOf_12 ?_
        refine lv_topi (fun x_6 ex_6 => ?_)
        first | have tx_6 := ti_add ex_6 (by omega) (by omega) | skip
        have rg_7 : vp_in x_6 8 := ti_in (by omega) (by omega)
        refine va_tc (v := .int (st_VL.getD (x_6 : Int32).toNatClampNeg 0)) G0.1 G0.2.1 T_5 hw.2.2.2.1 rg_7 rfl dX10_itemOf_13 ?_
        refine lv_topi (fun x_8 ex_8 => ?_)
        have bx_8 := st_VL_b rg_7 ex_8
        have hvl := tb_vl1 bx_8 (k := v_1.toInt) (by omega) (by omega) (by omega)
        have hvn := fun (c : Int) (hn : x_8.toInt ≠ c) => tb_vn1 bx_8 (k := v_1.toInt) (by omega) (by omega) (by omega) hn
        clear bx_8
        refine lv_iload_n G0.1 G0.2.1 dX10_itemOf_14 rfl (lv_at hl 1 rfl) ?_
        refine lv_icmp_ne (tgt := 20) G0.1 G0.2.1 dX10_itemOf_15 (by decide) (fun c_9 => ?_) (fun c_9 => ?_)
        · skip
          have tc_9 := ti_ne c_9
          obtain ⟨x_10, ex_10⟩ : ∃ y : Int32, y = v_1 + 1 := ⟨_, rfl⟩
          first | have tx_10 := ti_add ex_10 (by omega) (by omega) | skip
          refine lv_iinc (v := x_10) (lv' := [(2, .int x_10), (0, .int a), (1, .int 0)]) G0.1 G0.2.1 dX10_itemOf_20 hl (k := 0) rfl (show _ + (1 : Int32) = _ from ex_10.symm) (by decide) rfl (fun ls hl => ?_)
          refine lv_goto (tgt := 2) G0.1 G0.2.1 dX10_itemOf_23 (by decide) ?_
          exact ih_2 ((2147483647 - x_10.toInt).toNat) (by omega) x_10 _ _ ls rfl ⟨by omega, by omega⟩ (fun j h0 h1 => if hz : j < v_1.toInt then iv0 j h0 hz else by obtain rfl : j = v_1.toInt := (by omega); exact hvn ca (by omega)) hw (lv_sub hl [0, 1, 2] rfl)
        · skip
          have tc_9 := ti_eq c_9
          refine lv_iload_n G0.1 G0.2.1 dX10_itemOf_18 rfl (lv_at hl 0 rfl) ?_
          exact py_iret G0 hr rfl hlk hw ⟨⟨by omega, by omega⟩, (fun hr => tb_nz1 (c := a.toInt) (by rw [show a.toInt = x_8.toInt by omega, hvl]; exact hr)), (by rw [show ca = x_8.toInt by omega]; exact hvl.symm), rfl, rfl⟩ dX10_itemOf_19
  exact lo_2 _ 0 _ _ ls rfl ⟨by omega, by omega⟩ (fun j h0 h1 => absurd h1 (by omega)) hw (lv_sub hl [0, 1, 2] rfl)

set_option maxHeartbeats 4000000 in
set_option maxRecDepth 100000 in
theorem c_X10_itemOf4 (l : Launch) (E : py_E) (G : wf_G) (L : List Nat) (f : py_F) (sz : Nat) (a : Int32) (ca : Int) (hG : GT G) (hWF : WF E G L f) (hp0 : a.toInt = ca) : Met l yX10_itemOf w_X10_itemOf ({ frames := 0, cells := 0, slots := 0, locals := 0 }) (py_Pc E [.int a, .int 4] L f sz) (py_Qi E L f sz (fun r L1 f1 => ((-1) ≤ r.toInt ∧ r.toInt ≤ 3) ∧ (r.toInt ≠ -1 → a.toInt ≠ 0) ∧ (r.toInt = rv_ix 0 ca) ∧ L = L1 ∧ f = f1)) 0 0 (va_A (va_pl L f) sz) := by
  refine Met.ofW (cc := cX10_itemOf) (maxL := 3) (ret := (some .int)) (by decide) rfl ?_
  intro p e s m args below meth c s₁ B hml hv
  obtain ⟨rfl, rfl, hw⟩ := py_start hv
  have G0 : CallFix p m c cX10_itemOf 3 s _ w_X10_itemOf RX10 := ⟨B.exec, B.bytes, hml, findClass_of_methodNamed B.named, atoms_spec (ws := w_X10_itemOf) B.pre⟩
  have hr := B.returns
  have hlk := B.notSynchronized
  have kcm1 : (-1 : Int32).toInt = -1 := rfl
  have kc0 : (0 : Int32).toInt = 0 := rfl
  have kc1 : (1 : Int32).toInt = 1 := rfl
  have kc4 : (4 : Int32).toInt = 4 := rfl
  have hl := lv_entry ([.int a, .int 4]) (n := 3) (Nat.le_of_ble_eq_true rfl)
  rw [lg_entry_eq]
  generalize (lg_sl ([.int a, .int 4]) ++ List.replicate (3 - (lg_sl ([.int a, .int 4])).length) Slot.unset).toArray = ls at hl ⊢
  have hl : lv_has ls 3 [(0, .int a), (1, .int 4)] := hl
  have hRP : RP E G f f := RP.refl
  refine lv_iconst (v := 0) G0.1 G0.2.1 dX10_itemOf_0 (by decide) ?_
  refine lv_istore_n (lv' := [(2, .int 0), (0, .int a), (1, .int 4)]) G0.1 G0.2.1 dX10_itemOf_1 rfl hl (by decide) rfl (fun ls hl => ?_)
  have lo_2 : ∀ n_2 : Nat, ∀ (v_1 : Int32) (H_j2 : Heap) (locs : List Loc) (ls : Array Slot), (2147483647 - v_1.toInt).toNat = n_2 → (0 ≤ v_1.toInt ∧ v_1.toInt ≤ 4) → (∀ j : Int, 0 ≤ j → j < v_1.toInt → rv_ix 0 ca ≠ j) → py_W E (va_A (va_pl L f) s.heap.size) s L f H_j2 locs → lv_has ls 3 [(2, .int v_1), (0, .int a), (1, .int 4)] → W p l e (headSpec w_X10_itemOf ({ frames := 0, cells := 0, slots := 0, locals := 0 })).room s m ([.int a, .int 4] : List Value).toArray below meth c H_j2 locs 0 0 (MQ below (py_Qi E L f s.heap.size (fun r L1 f1 => ((-1) ≤ r.toInt ∧ r.toInt ≤ 3) ∧ (r.toInt ≠ -1 → a.toInt ≠ 0) ∧ (r.toInt = rv_ix 0 ca) ∧ L = L1 ∧ f = f1)) ([.int a, .int 4] : List Value).toArray s 0 0 (va_A (va_pl L f) s.heap.size)) (F0 m 2 ls []) := by
    intro n_2
    induction n_2 using Nat.strongRecOn with
    | _ n_2 ih_2 =>
      intro v_1 H_j2 locs ls hn_2 bv_1 iv0 hw hl
      refine lv_iload_n G0.1 G0.2.1 dX10_itemOf_2 rfl (lv_at hl 0 rfl) ?_
      refine lv_iconst (v := 4) G0.1 G0.2.1 dX10_itemOf_3 (by decide) ?_
      refine lv_icmp_ge (tgt := 26) G0.1 G0.2.1 dX10_itemOf_4 (by decide) (fun c_2 => ?_) (fun c_2 => ?_)
      · skip
        have tc_2 := ti_le c_2
        refine lv_iconst (v := (-1)) G0.1 G0.2.1 dX10_itemOf_26 (by decide) ?_
        exact py_iret G0 hr rfl hlk hw ⟨⟨by omega, by omega⟩, (fun hr => absurd kcm1 hr), (tb_no0 (iv0 0 (by omega) (by omega)) (iv0 1 (by omega) (by omega)) (iv0 2 (by omega) (by omega)) (iv0 3 (by omega) (by omega))), rfl, rfl⟩ dX10_itemOf_27
      · skip
        have tc_2 := ti_nle c_2
        obtain ⟨st_3, z_4, T_5⟩ := hw.2.2.2.2.2.2.1
        refine va_gets (C := "HeadYear$ValleyReader") G0.1 G0.2.1 z_4 hw.2.2.2.1 G0.2.2.2.1 (G0.2.2.2.2 (Cond.fieldLink RX10 87 "HeadYear$ValleyReader" "LETTERS" "[C") (by decide +kernel)) (fun _ h => h) dX10_itemOf_7 ?_
        refine lv_iload_n G0.1 G0.2.1 dX10_itemOf_10 rfl (lv_at hl 2 rfl) ?_
        refine lv_iload_n G0.1 G0.2.1 dX10_itemOf_11 rfl (lv_at hl 0 rfl) ?_
        refine lv_iadd G0.1 G0.2.1 dX10_itemOf_12 ?_
        refine lv_topi (fun x_6 ex_6 => ?_)
        first | have tx_6 := ti_add ex_6 (by omega) (by omega) | skip
        have rg_7 : vp_in x_6 8 := ti_in (by omega) (by omega)
        refine va_tc (v := .int (st_VL.getD (x_6 : Int32).toNatClampNeg 0)) G0.1 G0.2.1 T_5 hw.2.2.2.1 rg_7 rfl dX10_itemOf_13 ?_
        refine lv_topi (fun x_8 ex_8 => ?_)
        have bx_8 := st_VL_b rg_7 ex_8
        have hvl := tb_vl0 bx_8 (k := v_1.toInt) (by omega) (by omega) (by omega)
        have hvn := fun (c : Int) (hn : x_8.toInt ≠ c) => tb_vn0 bx_8 (k := v_1.toInt) (by omega) (by omega) (by omega) hn
        clear bx_8
        refine lv_iload_n G0.1 G0.2.1 dX10_itemOf_14 rfl (lv_at hl 1 rfl) ?_
        refine lv_icmp_ne (tgt := 20) G0.1 G0.2.1 dX10_itemOf_15 (by decide) (fun c_9 => ?_) (fun c_9 => ?_)
        · skip
          have tc_9 := ti_ne c_9
          obtain ⟨x_10, ex_10⟩ : ∃ y : Int32, y = v_1 + 1 := ⟨_, rfl⟩
          first | have tx_10 := ti_add ex_10 (by omega) (by omega) | skip
          refine lv_iinc (v := x_10) (lv' := [(2, .int x_10), (0, .int a), (1, .int 4)]) G0.1 G0.2.1 dX10_itemOf_20 hl (k := 0) rfl (show _ + (1 : Int32) = _ from ex_10.symm) (by decide) rfl (fun ls hl => ?_)
          refine lv_goto (tgt := 2) G0.1 G0.2.1 dX10_itemOf_23 (by decide) ?_
          exact ih_2 ((2147483647 - x_10.toInt).toNat) (by omega) x_10 _ _ ls rfl ⟨by omega, by omega⟩ (fun j h0 h1 => if hz : j < v_1.toInt then iv0 j h0 hz else by obtain rfl : j = v_1.toInt := (by omega); exact hvn ca (by omega)) hw (lv_sub hl [0, 1, 2] rfl)
        · skip
          have tc_9 := ti_eq c_9
          refine lv_iload_n G0.1 G0.2.1 dX10_itemOf_18 rfl (lv_at hl 0 rfl) ?_
          exact py_iret G0 hr rfl hlk hw ⟨⟨by omega, by omega⟩, (fun hr => tb_nz0 (c := a.toInt) (by rw [show a.toInt = x_8.toInt by omega, hvl]; exact hr)), (by rw [show ca = x_8.toInt by omega]; exact hvl.symm), rfl, rfl⟩ dX10_itemOf_19
  exact lo_2 _ 0 _ _ ls rfl ⟨by omega, by omega⟩ (fun j h0 h1 => absurd h1 (by omega)) hw (lv_sub hl [0, 1, 2] rfl)
