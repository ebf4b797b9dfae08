theorem dX10_faultOf_0 : decode cX10_faultOf 0 = .ok (.aload_n 1, 1) := by decide +kernel
theorem dX10_faultOf_1 : decode cX10_faultOf 1 = .ok (.iconst 0, 1) := by decide +kernel
theorem dX10_faultOf_2 : decode cX10_faultOf 2 = .ok (.putfield 22, 3) := by decide +kernel
theorem dX10_faultOf_5 : decode cX10_faultOf 5 = .ok (.aload_n 0, 1) := by decide +kernel
theorem dX10_faultOf_6 : decode cX10_faultOf 6 = .ok (.getfield 18, 3) := by decide +kernel
theorem dX10_faultOf_9 : decode cX10_faultOf 9 = .ok (.invokevirtual 28, 3) := by decide +kernel
theorem dX10_faultOf_12 : decode cX10_faultOf 12 = .ok (.aload_n 0, 1) := by decide +kernel
theorem dX10_faultOf_13 : decode cX10_faultOf 13 = .ok (.aload_n 1, 1) := by decide +kernel
theorem dX10_faultOf_14 : decode cX10_faultOf 14 = .ok (.invokevirtual 31, 3) := by decide +kernel
theorem dX10_faultOf_17 : decode cX10_faultOf 17 = .ok (.istore_n 2, 1) := by decide +kernel
theorem dX10_faultOf_18 : decode cX10_faultOf 18 = .ok (.iconst 0, 1) := by decide +kernel
theorem dX10_faultOf_19 : decode cX10_faultOf 19 = .ok (.istore_n 3, 1) := by decide +kernel
theorem dX10_faultOf_20 : decode cX10_faultOf 20 = .ok (.iload_n 3, 1) := by decide +kernel
theorem dX10_faultOf_21 : decode cX10_faultOf 21 = .ok (.sipush 160, 3) := by decide +kernel
theorem dX10_faultOf_24 : decode cX10_faultOf 24 = .ok (.if_icmp .ge 28, 3) := by decide +kernel
theorem dX10_faultOf_27 : decode cX10_faultOf 27 = .ok (.iload_n 2, 1) := by decide +kernel
theorem dX10_faultOf_28 : decode cX10_faultOf 28 = .ok (.ifCond .eq 24, 3) := by decide +kernel
theorem dX10_faultOf_31 : decode cX10_faultOf 31 = .ok (.aload_n 1, 1) := by decide +kernel
theorem dX10_faultOf_32 : decode cX10_faultOf 32 = .ok (.bipush 59, 2) := by decide +kernel
theorem dX10_faultOf_34 : decode cX10_faultOf 34 = .ok (.invokevirtual 35, 3) := by decide +kernel
theorem dX10_faultOf_37 : decode cX10_faultOf 37 = .ok (.ifCond .eq 15, 3) := by decide +kernel
theorem dX10_faultOf_40 : decode cX10_faultOf 40 = .ok (.aload_n 0, 1) := by decide +kernel
theorem dX10_faultOf_41 : decode cX10_faultOf 41 = .ok (.aload_n 1, 1) := by decide +kernel
theorem dX10_faultOf_42 : decode cX10_faultOf 42 = .ok (.invokevirtual 31, 3) := by decide +kernel
theorem dX10_faultOf_45 : decode cX10_faultOf 45 = .ok (.istore_n 2, 1) := by decide +kernel
theorem dX10_faultOf_46 : decode cX10_faultOf 46 = .ok (.iinc 3 1, 3) := by decide +kernel
theorem dX10_faultOf_49 : decode cX10_faultOf 49 = .ok (.goto (-29), 3) := by decide +kernel
theorem dX10_faultOf_52 : decode cX10_faultOf 52 = .ok (.iload_n 2, 1) := by decide +kernel
theorem dX10_faultOf_53 : decode cX10_faultOf 53 = .ok (.ifCond .eq 10, 3) := by decide +kernel
theorem dX10_faultOf_56 : decode cX10_faultOf 56 = .ok (.aload_n 1, 1) := by decide +kernel
theorem dX10_faultOf_57 : decode cX10_faultOf 57 = .ok (.invokevirtual 39, 3) := by decide +kernel
theorem dX10_faultOf_60 : decode cX10_faultOf 60 = .ok (.ifCond .eq 8, 3) := by decide +kernel
theorem dX10_faultOf_63 : decode cX10_faultOf 63 = .ok (.aload_n 1, 1) := by decide +kernel
theorem dX10_faultOf_64 : decode cX10_faultOf 64 = .ok (.getfield 22, 3) := by decide +kernel
theorem dX10_faultOf_67 : decode cX10_faultOf 67 = .ok (.ireturn, 1) := by decide +kernel
theorem dX10_faultOf_68 : decode cX10_faultOf 68 = .ok (.aload_n 0, 1) := by decide +kernel
theorem dX10_faultOf_69 : decode cX10_faultOf 69 = .ok (.getfield 18, 3) := by decide +kernel
theorem dX10_faultOf_72 : decode cX10_faultOf 72 = .ok (.invokevirtual 43, 3) := by decide +kernel
theorem dX10_faultOf_75 : decode cX10_faultOf 75 = .ok (.ifCond .eq 7, 3) := by decide +kernel
theorem dX10_faultOf_78 : decode cX10_faultOf 78 = .ok (.iconst (-1), 1) := by decide +kernel
theorem dX10_faultOf_79 : decode cX10_faultOf 79 = .ok (.goto 7, 3) := by decide +kernel
theorem dX10_faultOf_82 : decode cX10_faultOf 82 = .ok (.aload_n 1, 1) := by decide +kernel
theorem dX10_faultOf_83 : decode cX10_faultOf 83 = .ok (.getfield 47, 3) := by decide +kernel
theorem dX10_faultOf_86 : decode cX10_faultOf 86 = .ok (.ireturn, 1) := by decide +kernel
def w_X10_faultOf : List Cond := .code yX10_faultOf cX10_faultOf 4 (some .int) :: ([Cond.fieldLink RX10 22 "HeadYear$Tape" "at" "I", Cond.fieldLink RX10 18 "HeadYear$ValleyReader" "draft" "LHeadYear$Valley;", Cond.methodLink RX10 28 yX9_clear, Cond.instanceMethod yX9_clear, Cond.selects RX9 yX9_clear yX9_clear, Cond.initialized RX9, Cond.methodLink RX10 31 yX10_readClause, Cond.instanceMethod yX10_readClause, Cond.selects RX10 yX10_readClause yX10_readClause, Cond.initialized RX10, Cond.methodLink RX10 39 yX8_next, Cond.instanceMethod yX8_next, Cond.selects RX8 yX8_next yX8_next, Cond.initialized RX8, Cond.methodLink RX10 43 yX9_isWhole, Cond.instanceMethod yX9_isWhole, Cond.selects RX9 yX9_isWhole yX9_isWhole, Cond.fieldLink RX10 47 "HeadYear$Tape" "length" "I", Cond.methodLink RX10 35 yX8_take, Cond.instanceMethod yX8_take, Cond.selects RX8 yX8_take yX8_take] ++ (u_ws RX8 TX8 4 ++ (u_ws RX10 TX10 2 ++ (w_X9_clear ++ (w_X10_readClause ++ (w_X8_next ++ (w_X9_isWhole ++ (w_X8_take ++ ([])))))))))
theorem in_X10_faultOf_X8 : ∀ w ∈ u_ws RX8 TX8 4, w ∈ w_X10_faultOf := fun _ h => List.mem_cons_of_mem _ (List.mem_append_right _ (List.mem_append_left _ h))
theorem in_X10_faultOf_X10 : ∀ w ∈ u_ws RX10 TX10 2, w ∈ w_X10_faultOf := fun _ h => List.mem_cons_of_mem _ (List.mem_append_right _ (List.mem_append_right _ (List.mem_append_left _ h)))
theorem gg_X10_faultOf_X9_clear : GoodIn w_X10_faultOf w_X9_clear := goodIn_sub (fun _ h => List.mem_cons_of_mem _ (List.mem_append_right _ (List.mem_append_right _ (List.mem_append_right _ (List.mem_append_left _ h))))) (by decide +kernel)
theorem gg_X10_faultOf_X10_readClause : GoodIn w_X10_faultOf w_X10_readClause := goodIn_sub (fun _ h => List.mem_cons_of_mem _ (List.mem_append_right _ (List.mem_append_right _ (List.mem_append_right _ (List.mem_append_right _ (List.mem_append_left _ h)))))) (by decide +kernel)
theorem gg_X10_faultOf_X8_next : GoodIn w_X10_faultOf w_X8_next := goodIn_sub (fun _ h => List.mem_cons_of_mem _ (List.mem_append_right _ (List.mem_append_right _ (List.mem_append_right _ (List.mem_append_right _ (List.mem_append_right _ (List.mem_append_left _ h))))))) (by decide +kernel)
theorem gg_X10_faultOf_X9_isWhole : GoodIn w_X10_faultOf w_X9_isWhole := goodIn_sub (fun _ h => List.mem_cons_of_mem _ (List.mem_append_right _ (List.mem_append_right _ (List.mem_append_right _ (List.mem_append_right _ (List.mem_append_right _ (List.mem_append_right _ (List.mem_append_left _ h)))))))) (by decide +kernel)
theorem gg_X10_faultOf_X8_take : GoodIn w_X10_faultOf w_X8_take := goodIn_sub (fun _ h => List.mem_cons_of_mem _ (List.mem_append_right _ (List.mem_append_right _ (List.mem_append_right _ (List.mem_append_right _ (List.mem_append_right _ (List.mem_append_right _ (List.mem_append_right _ (List.mem_append_left _ h))))))))) (by decide +kernel)
theorem g_X10_faultOf_X10_readClause_31 : GoodIn w_X10_faultOf (wsV RX10 31 RX10 yX10_readClause w_X10_readClause) := goodIn_app (goodIn_of _ (by decide +kernel)) gg_X10_faultOf_X10_readClause
theorem g_X10_faultOf_X8_next_39 : GoodIn w_X10_faultOf (wsV RX10 39 RX8 yX8_next w_X8_next) := goodIn_app (goodIn_of _ (by decide +kernel)) gg_X10_faultOf_X8_next
theorem g_X10_faultOf_X8_take_35 : GoodIn w_X10_faultOf (wsV RX10 35 RX8 yX8_take w_X8_take) := goodIn_app (goodIn_of _ (by decide +kernel)) gg_X10_faultOf_X8_take
theorem g_X10_faultOf_X9_clear_28 : GoodIn w_X10_faultOf (wsV RX10 28 RX9 yX9_clear w_X9_clear) := goodIn_app (goodIn_of _ (by decide +kernel)) gg_X10_faultOf_X9_clear
theorem g_X10_faultOf_X9_isWhole_43 : GoodIn w_X10_faultOf (wsV RX10 43 RX9 yX9_isWhole w_X9_isWhole) := goodIn_app (goodIn_of _ (by decide +kernel)) gg_X10_faultOf_X9_isWhole
set_option maxHeartbeats 4000000 in
set_option maxRecDepth 100000 in
theorem c_X10_faultOf (l : Launch) (E : py_E) (G : wf_G) (L : List Nat) (f : py_F) (sz : Nat) (h : Nat) (t : Nat) (gb : rs_B) (nb : Int) (vb : Nat) (hG : GT G) (hWF : WF E G L f) (Th : G.1 h = 11) (Tt : G.1 t = 9) (hp0 : tp_l f t = nb) (hp1 : 0 ≤ nb ∧ nb ≤ 160) (hq0 : G.1 vb = 10) (hq1 : dr_v (f h) = vb) (hq2 : gfn f (G.2 t 0) = gb) (hq3 : rs_tb gb nb) : Met l yX10_faultOf w_X10_faultOf ({ frames := 5, cells := 0, slots := 0, locals := 113 }) (py_Pc E [.ref h, .ref t] L f sz) (py_Qi E L f sz (fun r L1 f1 => ((-1) ≤ r.toInt ∧ r.toInt ≤ 160) ∧ (tp_l f1 t = nb) ∧ (r.toInt = -1 → 2 ≤ rd_l f1 h) ∧ (RVF gb nb r.toInt) ∧ (r.toInt = -1 → va_f f1 vb = rv_fm gb nb) ∧ WF E G L1 f1 ∧ RP E G f f1 ∧ KP G [9, 36, 10, 24, 80, 27, 25, 26] false f f1 ∧ VO G f f1 (dr_v (f h)))) 0 0 (va_A (va_pl L f) sz) := by
  refine Met.ofW (cc := cX10_faultOf) (maxL := 4) (ret := (some .int)) (by decide) rfl ?_
  intro p e s m args below meth c s₁ B hml hv
  obtain ⟨rfl, rfl, hw⟩ := py_start hv
  have G0 : CallFix p m c cX10_faultOf 4 s _ w_X10_faultOf RX10 := ⟨B.exec, B.bytes, hml, findClass_of_methodNamed B.named, atoms_spec (ws := w_X10_faultOf) B.pre⟩
  have hr := B.returns
  have hlk := B.notSynchronized
  have kcm1 : (-1 : Int32).toInt = -1 := rfl
  have kc0 : (0 : Int32).toInt = 0 := rfl
  have kc1 : (1 : Int32).toInt = 1 := rfl
  have kc59 : (59 : Int32).toInt = 59 := rfl
  have kc160 : (160 : Int32).toInt = 160 := rfl
  have hl := lv_entry ([.ref h, .ref t]) (n := 4) (Nat.le_of_ble_eq_true rfl)
  rw [lg_entry_eq]
  generalize (lg_sl ([.ref h, .ref t]) ++ List.replicate (4 - (lg_sl ([.ref h, .ref t])).length) Slot.unset).toArray = ls at hl ⊢
  have hl : lv_has ls 4 [(0, .ref h), (1, .ref t)] := hl
  have hRP : RP E G f f := RP.refl
  have hKP : KP G [9, 36, 10, 24, 80, 27, 25, 26] false f f := KP.refl
  have hVO : VO G f f (dr_v (f h)) := VO.refl
  have hTv := hq0
  have hDR := hq1
  have hTB := hq2
  refine lv_aload_n G0.1 G0.2.1 dX10_faultOf_0 rfl (lv_at hl 1 rfl) ?_
  refine lv_iconst (v := 0) G0.1 G0.2.1 dX10_faultOf_1 (by decide) ?_
  have t_1 := wt_8 hG Tt
  obtain ⟨v_2, v_3, v_4, hr_7, b_5, b_6⟩ := wg_8 hWF Tt
  have bv_4 := wf_free v_4
  have tq_8 := tp_eq hr_7
  refine py_put (C := RX8) (T := TX8) (N := 4) (k := 2) (v := .int 0) (fs' := [.ref (G.2 t 0), .int v_2, .int 0, .int v_4]) (ty0 := tyX8) G0 hw tyX8_ok nmX8 in_X10_faultOf_X8 rfl hr_7 (by decide) (by decide +kernel) rfl rfl rfl rfl (Nat.le_of_ble_eq_true rfl) rfl dX10_faultOf_2 (fun f_9 H_10 locs h_11 x_12 hw => ?_)
  have hTB := (gfn_kp (kp_f (KP.refl.upd hWF x_12 Tt (Or.inl (by decide)) : KP G [9] false f f_9) (wt_8 hG Tt) (by decide) (by decide) (fun _ => by decide))).trans hTB
  have hDR := (congrArg dr_v (kp_f (KP.refl.upd hWF x_12 Tt (Or.inl (by decide)) : KP G [9] false f f_9) Th (by decide) (by decide) (fun _ => by decide))).trans hDR
  have hVO := hVO.upd hWF x_12 (Or.inr (by rw [Tt]; omega))
  have hKP := hKP.upd hWF x_12 Tt (Or.inl (by decide))
  have hRP := hRP.trans (rp_upd hG hWF x_12 hr_7.2 h_11.2 (rp_code hG Tt (by decide)) rfl)
  have hWF := wf_upd hWF h_11 x_12 (by rw [Tt]; exact ⟨v_2, 0, v_4, rfl, ⟨by omega, by omega⟩, ⟨by omega, by omega⟩⟩)
  have tq_13 := tp_eq h_11
  refine lv_aload_n G0.1 G0.2.1 dX10_faultOf_5 rfl (lv_at hl 0 rfl) ?_
  have t_14 := wt_10 hG Th
  obtain ⟨r_15, hr_17, ty_16⟩ := wg_10 hWF Th
  have tq_18 := rd_eq hr_17
  refine py_get (C := RX10) (T := TX10) (N := 2) (k := 1) (v := .ref r_15) G0 hw in_X10_faultOf_X10 rfl hr_17 (by decide) (by decide +kernel) rfl dX10_faultOf_6 ?_
  obtain ⟨t_19, t_20, t_21, t_22, t_23, t_24, t_25, t_26⟩ := wt_9 hG ty_16
  obtain ⟨v_27, v_28, hr_31, b_29, b_30⟩ := wg_9 hWF ty_16
  have tq_32 := va_eq hr_31
  refine py_callv hw (va_runV (As := []) (rest := []) G0 (c_X9_clear l E G L f_9 H_10.size r_15 hG hWF ty_16) (cwV 0 G0.2.2.2.2 g_X10_faultOf_X9_clear_28 rfl rfl rfl (by decide +kernel) ⟨(Nat.le_of_ble_eq_true rfl), (Nat.le_of_ble_eq_true rfl)⟩) (py_preV hw (C := RX9) (T := TX9) (N := 10) rfl hr_31) rfl rfl hl.1 rfl (lv_room (Nat.le_of_ble_eq_true rfl)) dX10_faultOf_9 ⟨(Nat.le_of_ble_eq_true rfl), (Nat.le_of_ble_eq_true rfl)⟩) (fun L_33 f_34 H_35 locs hp_36 hw => ?_)
  obtain ⟨en_38, hWF, hq_39, kp_40, vo_41⟩ := hp_36
  have hVO := vo_tr9 hVO hKP Th (by decide) hr_17 vo_41
  have hTB := (gfn_kp (kp_f kp_40 (wt_8 hG Tt) (by decide) (by decide) (fun _ => by decide))).trans hTB
  have hDR := (congrArg dr_v (kp_f kp_40 Th (by decide) (by decide) (fun _ => by decide))).trans hDR
  have hRP := hRP.trans hq_39
  have hKP := hKP.trans kp_40 (by decide) (by decide)
  have h_11 := kp_at kp_40 hWF Tt (by decide) (by decide) (by decide) h_11
  have tq_42 := tp_eq h_11
  have hr_17 := kp_at kp_40 hWF Th (by decide) (by decide) (by decide) hr_17
  have tq_43 := rd_eq hr_17
  have hV0 := en_38.at ((dr_eq hr_17).symm.trans hDR)
  refine lv_aload_n G0.1 G0.2.1 dX10_faultOf_12 rfl (lv_at hl 0 rfl) ?_
  refine lv_aload_n G0.1 G0.2.1 dX10_faultOf_13 rfl (lv_at hl 1 rfl) ?_
  refine py_calli hw (va_runV (As := [.ref t]) (rest := []) G0 (c_X10_readClause l E G L_33 f_34 H_35.size h t gb nb 0 vb rv_s0 hG hWF Th Tt (show tp_l f_34 t = nb ∧ tp_a f_34 t = 0 by omega) (show 0 ≤ 0 ∧ nb ≤ 160 by omega) hTv hDR hV0 hTB) (cwV 1 G0.2.2.2.2 g_X10_faultOf_X10_readClause_31 rfl rfl rfl (by decide +kernel) ⟨(Nat.le_of_ble_eq_true rfl), (Nat.le_of_ble_eq_true rfl)⟩) (py_preV hw (C := RX10) (T := TX10) (N := 2) rfl hr_17) rfl rfl hl.1 rfl (lv_room (Nat.le_of_ble_eq_true rfl)) dX10_faultOf_14 ⟨(Nat.le_of_ble_eq_true rfl), (Nat.le_of_ble_eq_true rfl)⟩) (fun r_48 L_44 f_45 H_46 locs hp_47 hw => ?_)
  obtain ⟨b_54, en_49, en_50, en_51, en_52, en_53, hWF, hq_55, kp_56, vo_57⟩ := hp_47
  have hVO := vo_tr10 hVO hKP Th (by decide) vo_57
  have hTB := (gfn_kp (kp_f kp_56 (wt_8 hG Tt) (by decide) (by decide) (fun _ => by decide))).trans hTB
  have hDR := (congrArg dr_v (kp_f kp_56 Th (by decide) (by decide) (fun _ => by decide))).trans hDR
  have hRP := hRP.trans hq_55
  have hKP := hKP.trans kp_56 (by decide) (by decide)
  have hr_17 := kp_at kp_56 hWF Th (by decide) (by decide) (by decide) hr_17
  have tq_58 := rd_eq hr_17
  refine lv_istore_n (lv' := [(2, .int r_48), (0, .ref h), (1, .ref t)]) G0.1 G0.2.1 dX10_faultOf_17 rfl hl (by decide) rfl (fun ls hl => ?_)
  refine lv_iconst (v := 0) G0.1 G0.2.1 dX10_faultOf_18 (by decide) ?_
  refine lv_istore_n (lv' := [(3, .int 0), (2, .int r_48), (0, .ref h), (1, .ref t)]) G0.1 G0.2.1 dX10_faultOf_19 rfl hl (by decide) rfl (fun ls hl => ?_)
  have lo_20 : ∀ n_20 : Nat, ∀ (v_59 : Int32) (v_60 : Int32) (L_j20 : List Nat) (f_j20 : py_F) (H_j20 : Heap) (locs : List Loc) (ls : Array Slot), (2147483647 - v_59.toInt).toNat = n_20 → (0 ≤ v_59.toInt ∧ v_59.toInt ≤ 2147483647) → (0 ≤ v_60.toInt ∧ v_60.toInt ≤ 1) → WF E G L_j20 f_j20 → RP E G f f_j20 → KP G [9, 36, 10, 24, 80, 27, 25, 26] false f f_j20 → VO G f f_j20 (dr_v (f h)) → gfn f_j20 (G.2 t 0) = gb → dr_v (f_j20 h) = vb → (tp_l f_j20 t = nb) → (0 ≤ tp_a f_j20 t) → (v_60.toInt = 1 → 2 * v_59.toInt ≤ tp_a f_j20 t ∧ tp_a f_j20 t ≤ nb) → (∃ w : rs_R × rv_S, rv_go gb nb rv_s0 0 = rv_af gb nb w ∧ VD f_j20 G vb w.2 ∧ rc_X w v_60.toInt (tp_a f_j20 t)) → py_W E (va_A (va_pl L f) s.heap.size) s L_j20 f_j20 H_j20 locs → lv_has ls 4 [(3, .int v_59), (2, .int v_60), (0, .ref h), (1, .ref t)] → W p l e (headSpec w_X10_faultOf ({ frames := 5, cells := 0, slots := 0, locals := 113 })).room s m ([.ref h, .ref t] : List Value).toArray below meth c H_j20 locs 0 0 (MQ below (py_Qi E L f s.heap.size (fun r L1 f1 => ((-1) ≤ r.toInt ∧ r.toInt ≤ 160) ∧ (tp_l f1 t = nb) ∧ (r.toInt = -1 → 2 ≤ rd_l f1 h) ∧ (RVF gb nb r.toInt) ∧ (r.toInt = -1 → va_f f1 vb = rv_fm gb nb) ∧ WF E G L1 f1 ∧ RP E G f f1 ∧ KP G [9, 36, 10, 24, 80, 27, 25, 26] false f f1 ∧ VO G f f1 (dr_v (f h)))) ([.ref h, .ref t] : List Value).toArray s 0 0 (va_A (va_pl L f) s.heap.size)) (F0 m 20 ls []) := by
    intro n_20
    induction n_20 using Nat.strongRecOn with
    | _ n_20 ih_20 =>
      intro v_59 v_60 L_j20 f_j20 H_j20 locs ls hn_20 bv_59 bv_60 hWF hRP hKP hVO hTB hDR iv0 iv1 iv2 iv3 hw hl
      obtain ⟨wb, hgo, hVDw, hrc1, hrc2⟩ := iv3
      refine lv_iload_n G0.1 G0.2.1 dX10_faultOf_20 rfl (lv_at hl 0 rfl) ?_
      refine lv_sipush (v := 160) G0.1 G0.2.1 dX10_faultOf_21 (by decide) ?_
      refine lv_icmp_ge (tgt := 52) G0.1 G0.2.1 dX10_faultOf_24 (by decide) (fun c_61 => ?_) (fun c_61 => ?_)
      · skip
        have tc_61 := ti_le c_61
        refine lv_iload_n G0.1 G0.2.1 dX10_faultOf_52 rfl (lv_at hl 1 rfl) ?_
        refine lv_if_eq (tgt := 63) G0.1 G0.2.1 dX10_faultOf_53 (by decide) (fun c_62 => ?_) (fun c_62 => ?_)
        · skip
          have tc_62 := ti_eq c_62
          refine lv_aload_n G0.1 G0.2.1 dX10_faultOf_63 rfl (lv_at hl 3 rfl) ?_
          obtain ⟨v_63, v_64, v_65, hr_68, b_66, b_67⟩ := wg_8 hWF Tt
          have bv_65 := wf_free v_65
          have tq_69 := tp_eq hr_68
          refine py_get (C := RX8) (T := TX8) (N := 4) (k := 2) (v := .int v_64) G0 hw in_X10_faultOf_X8 rfl hr_68 (by decide) (by decide +kernel) rfl dX10_faultOf_64 ?_
          obtain ⟨r_70, hr_72, ty_71⟩ := wg_10 hWF Th
          have tq_73 := rd_eq hr_72
          exact py_iret G0 hr rfl hlk hw ⟨⟨by omega, by omega⟩, (by first | omega | (intro q; omega)), (by first | omega | (intro q; omega)), (by first | exact RVF_0 hgo (by omega) (by omega) | exact False.elim (by omega)), (fun hr => by first | exact hVDw.1.2.trans (rv_fm_e hgo (by omega) (by omega)).symm | exact absurd hr (by omega)), hWF, hRP, hKP, hVO⟩ dX10_faultOf_67
        · skip
          have tc_62 := ti_ne c_62
          refine lv_aload_n G0.1 G0.2.1 dX10_faultOf_56 rfl (lv_at hl 3 rfl) ?_
          obtain ⟨v_74, v_75, v_76, hr_79, b_77, b_78⟩ := wg_8 hWF Tt
          have bv_76 := wf_free v_76
          have tq_80 := tp_eq hr_79
          refine py_calli hw (va_runV (As := []) (rest := []) G0 (c_X8_next l E G L_j20 f_j20 H_j20.size t gb nb (rs_sk gb nb wb.1.2) hG hWF Tt (show tp_l f_j20 t = nb ∧ tp_a f_j20 t = (rs_sk gb nb wb.1.2) by omega) (show 0 ≤ (rs_sk gb nb wb.1.2) ∧ nb ≤ 160 by omega) hTB) (cwV 0 G0.2.2.2.2 g_X10_faultOf_X8_next_39 rfl rfl rfl (by decide +kernel) ⟨(Nat.le_of_ble_eq_true rfl), (Nat.le_of_ble_eq_true rfl)⟩) (py_preV hw (C := RX8) (T := TX8) (N := 4) rfl hr_79) rfl rfl hl.1 rfl (lv_room (Nat.le_of_ble_eq_true rfl)) dX10_faultOf_57 ⟨(Nat.le_of_ble_eq_true rfl), (Nat.le_of_ble_eq_true rfl)⟩) (fun r_85 L_81 f_82 H_83 locs hp_84 hw => ?_)
          obtain ⟨en_86, en_87, en_88, en_89, en_90, hWF, hq_91, kp_92⟩ := hp_84
          have hVO := hVO.kp kp_92 (by decide)
          have hTB := (gfn_kp (kp_f kp_92 (wt_8 hG Tt) (by decide) (by decide) (fun _ => by decide))).trans hTB
          have hDR := (congrArg dr_v (kp_f kp_92 Th (by decide) (by decide) (fun _ => by decide))).trans hDR
          have hVDw := hVDw.same (kp_f kp_92 hTv (by decide) (by decide) (fun _ => by decide)) (kp_f kp_92 (wt_9 hG hTv).1 (by decide) (by decide) (fun _ => by decide)) (kp_f kp_92 (wt_9 hG hTv).2.2.2.2.2.1 (by decide) (by decide) (fun _ => by decide))
          have hRP := hRP.trans hq_91
          have hKP := hKP.trans kp_92 (by decide) (by decide)
          rw [rs_sk_idem] at en_90
          have br_85 := wf_free r_85
          refine lv_if_eq (tgt := 68) G0.1 G0.2.1 dX10_faultOf_60 (by decide) (fun c_93 => ?_) (fun c_93 => ?_)
          · skip
            have tc_93 := ti_eq c_93
            clear en_86
            refine lv_aload_n G0.1 G0.2.1 dX10_faultOf_68 rfl (lv_at hl 2 rfl) ?_
            obtain ⟨r_94, hr_96, ty_95⟩ := wg_10 hWF Th
            have tq_97 := rd_eq hr_96
            refine py_get (C := RX10) (T := TX10) (N := 2) (k := 1) (v := .ref r_94) G0 hw in_X10_faultOf_X10 rfl hr_96 (by decide) (by decide +kernel) rfl dX10_faultOf_69 ?_
            obtain ⟨t_98, t_99, t_100, t_101, t_102, t_103, t_104, t_105⟩ := wt_9 hG ty_95
            obtain ⟨v_106, v_107, hr_110, b_108, b_109⟩ := wg_9 hWF ty_95
            have tq_111 := va_eq hr_110
            refine py_calli hw (va_runV (As := []) (rest := []) G0 (c_X9_isWhole l E G L_81 f_82 H_83.size r_94 wb.2 hG hWF ty_95 (hVDw.at (hDR.symm.trans (dr_eq hr_96)))) (cwV 0 G0.2.2.2.2 g_X10_faultOf_X9_isWhole_43 rfl rfl rfl (by decide +kernel) ⟨(Nat.le_of_ble_eq_true rfl), (Nat.le_of_ble_eq_true rfl)⟩) (py_preV hw (C := RX9) (T := TX9) (N := 10) rfl hr_110) rfl rfl hl.1 rfl (lv_room (Nat.le_of_ble_eq_true rfl)) dX10_faultOf_72 ⟨(Nat.le_of_ble_eq_true rfl), (Nat.le_of_ble_eq_true rfl)⟩) (fun r_116 L_112 f_113 H_114 locs hp_115 hw => ?_)
            obtain ⟨b_120, en_117, en_118, en_119, rfl, rfl⟩ := hp_115
            refine lv_if_eq (tgt := 82) G0.1 G0.2.1 dX10_faultOf_75 (by decide) (fun c_121 => ?_) (fun c_121 => ?_)
            · skip
              have tc_121 := ti_eq c_121
              clear en_117
              refine lv_aload_n G0.1 G0.2.1 dX10_faultOf_82 rfl (lv_at hl 3 rfl) ?_
              obtain ⟨v_122, v_123, v_124, hr_127, b_125, b_126⟩ := wg_8 hWF Tt
              have bv_124 := wf_free v_124
              have tq_128 := tp_eq hr_127
              refine py_get (C := RX8) (T := TX8) (N := 4) (k := 1) (v := .int v_122) G0 hw in_X10_faultOf_X8 rfl hr_127 (by decide) (by decide +kernel) rfl dX10_faultOf_83 ?_
              exact py_iret G0 hr rfl hlk hw ⟨⟨by omega, by omega⟩, (by first | omega | (intro q; omega)), (by first | omega | (intro q; omega)), (by first | exact RVF_y hgo (by omega) (by omega) (fun hl => hq3 _ (by omega) hl (by omega)) (en_118 (by omega)) (by omega) | exact RVF_n hgo (by omega) (by omega) (fun hl => hq3 _ (by omega) hl (by omega)) (en_119 (by omega)) (by omega) | exact False.elim (by omega)), (fun hr => by first | exact hVDw.1.2.trans (rv_fm_e hgo (by omega) (by omega)).symm | exact absurd hr (by omega)), hWF, hRP, hKP, hVO⟩ dX10_faultOf_86
            · skip
              have tc_121 := ti_ne c_121
              replace en_117 := en_117 (by omega)
              refine lv_iconst (v := (-1)) G0.1 G0.2.1 dX10_faultOf_78 (by decide) ?_
              refine lv_goto (tgt := 86) G0.1 G0.2.1 dX10_faultOf_79 (by decide) ?_
              obtain ⟨v_129, v_130, v_131, hr_134, b_132, b_133⟩ := wg_8 hWF Tt
              have bv_131 := wf_free v_131
              have tq_135 := tp_eq hr_134
              exact py_iret G0 hr rfl hlk hw ⟨⟨by omega, by omega⟩, (by first | omega | (intro q; omega)), (by first | omega | (intro q; omega)), (by first | exact RVF_y hgo (by omega) (by omega) (fun hl => hq3 _ (by omega) hl (by omega)) (en_118 (by omega)) (by omega) | exact RVF_n hgo (by omega) (by omega) (fun hl => hq3 _ (by omega) hl (by omega)) (en_119 (by omega)) (by omega) | exact False.elim (by omega)), (fun hr => by first | exact hVDw.1.2.trans (rv_fm_e hgo (by omega) (by omega)).symm | exact absurd hr (by omega)), hWF, hRP, hKP, hVO⟩ dX10_faultOf_86
          · skip
            have tc_93 := ti_ne c_93
            replace en_86 := en_86 (by omega)
            refine lv_aload_n G0.1 G0.2.1 dX10_faultOf_63 rfl (lv_at hl 3 rfl) ?_
            obtain ⟨v_136, v_137, v_138, hr_141, b_139, b_140⟩ := wg_8 hWF Tt
            have bv_138 := wf_free v_138
            have tq_142 := tp_eq hr_141
            refine py_get (C := RX8) (T := TX8) (N := 4) (k := 2) (v := .int v_137) G0 hw in_X10_faultOf_X8 rfl hr_141 (by decide) (by decide +kernel) rfl dX10_faultOf_64 ?_
            obtain ⟨r_143, hr_145, ty_144⟩ := wg_10 hWF Th
            have tq_146 := rd_eq hr_145
            exact py_iret G0 hr rfl hlk hw ⟨⟨by omega, by omega⟩, (by first | omega | (intro q; omega)), (by first | omega | (intro q; omega)), (by first | exact RVF_p hgo (by omega) (by omega) (by omega) (by omega) | exact False.elim (by omega)), (fun hr => by first | exact hVDw.1.2.trans (rv_fm_e hgo (by omega) (by omega)).symm | exact absurd hr (by omega)), hWF, hRP, hKP, hVO⟩ dX10_faultOf_67
      · skip
        have tc_61 := ti_nle c_61
        refine lv_iload_n G0.1 G0.2.1 dX10_faultOf_27 rfl (lv_at hl 1 rfl) ?_
        refine lv_if_eq (tgt := 52) G0.1 G0.2.1 dX10_faultOf_28 (by decide) (fun c_147 => ?_) (fun c_147 => ?_)
        · skip
          have tc_147 := ti_eq c_147
          refine lv_iload_n G0.1 G0.2.1 dX10_faultOf_52 rfl (lv_at hl 1 rfl) ?_
          refine lv_if_eq (tgt := 63) G0.1 G0.2.1 dX10_faultOf_53 (by decide) (fun c_148 => ?_) (fun c_148 => ?_)
          · skip
            have tc_148 := ti_eq c_148
            refine lv_aload_n G0.1 G0.2.1 dX10_faultOf_63 rfl (lv_at hl 3 rfl) ?_
            obtain ⟨v_149, v_150, v_151, hr_154, b_152, b_153⟩ := wg_8 hWF Tt
            have bv_151 := wf_free v_151
            have tq_155 := tp_eq hr_154
            refine py_get (C := RX8) (T := TX8) (N := 4) (k := 2) (v := .int v_150) G0 hw in_X10_faultOf_X8 rfl hr_154 (by decide) (by decide +kernel) rfl dX10_faultOf_64 ?_
            obtain ⟨r_156, hr_158, ty_157⟩ := wg_10 hWF Th
            have tq_159 := rd_eq hr_158
            exact py_iret G0 hr rfl hlk hw ⟨⟨by omega, by omega⟩, (by first | omega | (intro q; omega)), (by first | omega | (intro q; omega)), (by first | exact RVF_0 hgo (by omega) (by omega) | exact False.elim (by omega)), (fun hr => by first | exact hVDw.1.2.trans (rv_fm_e hgo (by omega) (by omega)).symm | exact absurd hr (by omega)), hWF, hRP, hKP, hVO⟩ dX10_faultOf_67
          · skip
            have tc_148 := ti_ne c_148
            refine lv_aload_n G0.1 G0.2.1 dX10_faultOf_56 rfl (lv_at hl 3 rfl) ?_
            obtain ⟨v_160, v_161, v_162, hr_165, b_163, b_164⟩ := wg_8 hWF Tt
            have bv_162 := wf_free v_162
            have tq_166 := tp_eq hr_165
            refine py_calli hw (va_runV (As := []) (rest := []) G0 (c_X8_next l E G L_j20 f_j20 H_j20.size t gb nb (rs_sk gb nb wb.1.2) hG hWF Tt (show tp_l f_j20 t = nb ∧ tp_a f_j20 t = (rs_sk gb nb wb.1.2) by omega) (show 0 ≤ (rs_sk gb nb wb.1.2) ∧ nb ≤ 160 by omega) hTB) (cwV 0 G0.2.2.2.2 g_X10_faultOf_X8_next_39 rfl rfl rfl (by decide +kernel) ⟨(Nat.le_of_ble_eq_true rfl), (Nat.le_of_ble_eq_true rfl)⟩) (py_preV hw (C := RX8) (T := TX8) (N := 4) rfl hr_165) rfl rfl hl.1 rfl (lv_room (Nat.le_of_ble_eq_true rfl)) dX10_faultOf_57 ⟨(Nat.le_of_ble_eq_true rfl), (Nat.le_of_ble_eq_true rfl)⟩) (fun r_171 L_167 f_168 H_169 locs hp_170 hw => ?_)
            obtain ⟨en_172, en_173, en_174, en_175, en_176, hWF, hq_177, kp_178⟩ := hp_170
            have hVO := hVO.kp kp_178 (by decide)
            have hTB := (gfn_kp (kp_f kp_178 (wt_8 hG Tt) (by decide) (by decide) (fun _ => by decide))).trans hTB
            have hDR := (congrArg dr_v (kp_f kp_178 Th (by decide) (by decide) (fun _ => by decide))).trans hDR
            have hVDw := hVDw.same (kp_f kp_178 hTv (by decide) (by decide) (fun _ => by decide)) (kp_f kp_178 (wt_9 hG hTv).1 (by decide) (by decide) (fun _ => by decide)) (kp_f kp_178 (wt_9 hG hTv).2.2.2.2.2.1 (by decide) (by decide) (fun _ => by decide))
            have hRP := hRP.trans hq_177
            have hKP := hKP.trans kp_178 (by decide) (by decide)
            rw [rs_sk_idem] at en_176
            have br_171 := wf_free r_171
            refine lv_if_eq (tgt := 68) G0.1 G0.2.1 dX10_faultOf_60 (by decide) (fun c_179 => ?_) (fun c_179 => ?_)
            · skip
              have tc_179 := ti_eq c_179
              clear en_172
              refine lv_aload_n G0.1 G0.2.1 dX10_faultOf_68 rfl (lv_at hl 2 rfl) ?_
              obtain ⟨r_180, hr_182, ty_181⟩ := wg_10 hWF Th
              have tq_183 := rd_eq hr_182
              refine py_get (C := RX10) (T := TX10) (N := 2) (k := 1) (v := .ref r_180) G0 hw in_X10_faultOf_X10 rfl hr_182 (by decide) (by decide +kernel) rfl dX10_faultOf_69 ?_
              obtain ⟨t_184, t_185, t_186, t_187, t_188, t_189, t_190, t_191⟩ := wt_9 hG ty_181
              obtain ⟨v_192, v_193, hr_196, b_194, b_195⟩ := wg_9 hWF ty_181
              have tq_197 := va_eq hr_196
              refine py_calli hw (va_runV (As := []) (rest := []) G0 (c_X9_isWhole l E G L_167 f_168 H_169.size r_180 wb.2 hG hWF ty_181 (hVDw.at (hDR.symm.trans (dr_eq hr_182)))) (cwV 0 G0.2.2.2.2 g_X10_faultOf_X9_isWhole_43 rfl rfl rfl (by decide +kernel) ⟨(Nat.le_of_ble_eq_true rfl), (Nat.le_of_ble_eq_true rfl)⟩) (py_preV hw (C := RX9) (T := TX9) (N := 10) rfl hr_196) rfl rfl hl.1 rfl (lv_room (Nat.le_of_ble_eq_true rfl)) dX10_faultOf_72 ⟨(Nat.le_of_ble_eq_true rfl), (Nat.le_of_ble_eq_true rfl)⟩) (fun r_202 L_198 f_199 H_200 locs hp_201 hw => ?_)
              obtain ⟨b_206, en_203, en_204, en_205, rfl, rfl⟩ := hp_201
              refine lv_if_eq (tgt := 82) G0.1 G0.2.1 dX10_faultOf_75 (by decide) (fun c_207 => ?_) (fun c_207 => ?_)
              · skip
                have tc_207 := ti_eq c_207
                clear en_203
                refine lv_aload_n G0.1 G0.2.1 dX10_faultOf_82 rfl (lv_at hl 3 rfl) ?_
                obtain ⟨v_208, v_209, v_210, hr_213, b_211, b_212⟩ := wg_8 hWF Tt
                have bv_210 := wf_free v_210
                have tq_214 := tp_eq hr_213
                refine py_get (C := RX8) (T := TX8) (N := 4) (k := 1) (v := .int v_208) G0 hw in_X10_faultOf_X8 rfl hr_213 (by decide) (by decide +kernel) rfl dX10_faultOf_83 ?_
                exact py_iret G0 hr rfl hlk hw ⟨⟨by omega, by omega⟩, (by first | omega | (intro q; omega)), (by first | omega | (intro q; omega)), (by first | exact RVF_y hgo (by omega) (by omega) (fun hl => hq3 _ (by omega) hl (by omega)) (en_204 (by omega)) (by omega) | exact RVF_n hgo (by omega) (by omega) (fun hl => hq3 _ (by omega) hl (by omega)) (en_205 (by omega)) (by omega) | exact False.elim (by omega)), (fun hr => by first | exact hVDw.1.2.trans (rv_fm_e hgo (by omega) (by omega)).symm | exact absurd hr (by omega)), hWF, hRP, hKP, hVO⟩ dX10_faultOf_86
              · skip
                have tc_207 := ti_ne c_207
                replace en_203 := en_203 (by omega)
                refine lv_iconst (v := (-1)) G0.1 G0.2.1 dX10_faultOf_78 (by decide) ?_
                refine lv_goto (tgt := 86) G0.1 G0.2.1 dX10_faultOf_79 (by decide) ?_
                obtain ⟨v_215, v_216, v_217, hr_220, b_218, b_219⟩ := wg_8 hWF Tt
                have bv_217 := wf_free v_217
                have tq_221 := tp_eq hr_220
                exact py_iret G0 hr rfl hlk hw ⟨⟨by omega, by omega⟩, (by first | omega | (intro q; omega)), (by first | omega | (intro q; omega)), (by first | exact RVF_y hgo (by omega) (by omega) (fun hl => hq3 _ (by omega) hl (by omega)) (en_204 (by omega)) (by omega) | exact RVF_n hgo (by omega) (by omega) (fun hl => hq3 _ (by omega) hl (by omega)) (en_205 (by omega)) (by omega) | exact False.elim (by omega)), (fun hr => by first | exact hVDw.1.2.trans (rv_fm_e hgo (by omega) (by omega)).symm | exact absurd hr (by omega)), hWF, hRP, hKP, hVO⟩ dX10_faultOf_86
            · skip
              have tc_179 := ti_ne c_179
              replace en_172 := en_172 (by omega)
              refine lv_aload_n G0.1 G0.2.1 dX10_faultOf_63 rfl (lv_at hl 3 rfl) ?_
              obtain ⟨v_222, v_223, v_224, hr_227, b_225, b_226⟩ := wg_8 hWF Tt
              have bv_224 := wf_free v_224
              have tq_228 := tp_eq hr_227
              refine py_get (C := RX8) (T := TX8) (N := 4) (k := 2) (v := .int v_223) G0 hw in_X10_faultOf_X8 rfl hr_227 (by decide) (by decide +kernel) rfl dX10_faultOf_64 ?_
              obtain ⟨r_229, hr_231, ty_230⟩ := wg_10 hWF Th
              have tq_232 := rd_eq hr_231
              exact py_iret G0 hr rfl hlk hw ⟨⟨by omega, by omega⟩, (by first | omega | (intro q; omega)), (by first | omega | (intro q; omega)), (by first | exact RVF_p hgo (by omega) (by omega) (by omega) (by omega) | exact False.elim (by omega)), (fun hr => by first | exact hVDw.1.2.trans (rv_fm_e hgo (by omega) (by omega)).symm | exact absurd hr (by omega)), hWF, hRP, hKP, hVO⟩ dX10_faultOf_67
        · skip
          have tc_147 := ti_ne c_147
          refine lv_aload_n G0.1 G0.2.1 dX10_faultOf_31 rfl (lv_at hl 3 rfl) ?_
          refine lv_bipush (v := 59) G0.1 G0.2.1 dX10_faultOf_32 (by decide) ?_
          obtain ⟨v_233, v_234, v_235, hr_238, b_236, b_237⟩ := wg_8 hWF Tt
          have bv_235 := wf_free v_235
          have tq_239 := tp_eq hr_238
          refine py_calli hw (va_runV (As := [.int 59]) (rest := []) G0 (c_X8_take l E G L_j20 f_j20 H_j20.size t 59 gb nb wb.1.2 hG hWF Tt ⟨by omega, by omega⟩ (show tp_l f_j20 t = nb ∧ tp_a f_j20 t = wb.1.2 by omega) (show 0 ≤ wb.1.2 ∧ nb ≤ 160 by omega) hTB) (cwV 1 G0.2.2.2.2 g_X10_faultOf_X8_take_35 rfl rfl rfl (by decide +kernel) ⟨(Nat.le_of_ble_eq_true rfl), (Nat.le_of_ble_eq_true rfl)⟩) (py_preV hw (C := RX8) (T := TX8) (N := 4) rfl hr_238) rfl rfl hl.1 rfl (lv_room (Nat.le_of_ble_eq_true rfl)) dX10_faultOf_34 ⟨(Nat.le_of_ble_eq_true rfl), (Nat.le_of_ble_eq_true rfl)⟩) (fun r_244 L_240 f_241 H_242 locs hp_243 hw => ?_)
          obtain ⟨b_249, en_245, en_246, en_247, en_248, hWF, hq_250, kp_251⟩ := hp_243
          have hVO := hVO.kp kp_251 (by decide)
          have hTB := (gfn_kp (kp_f kp_251 (wt_8 hG Tt) (by decide) (by decide) (fun _ => by decide))).trans hTB
          have hDR := (congrArg dr_v (kp_f kp_251 Th (by decide) (by decide) (fun _ => by decide))).trans hDR
          have hVDw := hVDw.same (kp_f kp_251 hTv (by decide) (by decide) (fun _ => by decide)) (kp_f kp_251 (wt_9 hG hTv).1 (by decide) (by decide) (fun _ => by decide)) (kp_f kp_251 (wt_9 hG hTv).2.2.2.2.2.1 (by decide) (by decide) (fun _ => by decide))
          have hRP := hRP.trans hq_250
          have hKP := hKP.trans kp_251 (by decide) (by decide)
          refine lv_if_eq (tgt := 52) G0.1 G0.2.1 dX10_faultOf_37 (by decide) (fun c_252 => ?_) (fun c_252 => ?_)
          · skip
            have tc_252 := ti_eq c_252
            clear en_247
            replace en_248 := en_248 (by omega)
            refine lv_iload_n G0.1 G0.2.1 dX10_faultOf_52 rfl (lv_at hl 1 rfl) ?_
            refine lv_if_eq (tgt := 63) G0.1 G0.2.1 dX10_faultOf_53 (by decide) (fun c_253 => ?_) (fun c_253 => ?_)
            · skip
              have tc_253 := ti_eq c_253
              refine lv_aload_n G0.1 G0.2.1 dX10_faultOf_63 rfl (lv_at hl 3 rfl) ?_
              obtain ⟨v_254, v_255, v_256, hr_259, b_257, b_258⟩ := wg_8 hWF Tt
              have bv_256 := wf_free v_256
              have tq_260 := tp_eq hr_259
              refine py_get (C := RX8) (T := TX8) (N := 4) (k := 2) (v := .int v_255) G0 hw in_X10_faultOf_X8 rfl hr_259 (by decide) (by decide +kernel) rfl dX10_faultOf_64 ?_
              obtain ⟨r_261, hr_263, ty_262⟩ := wg_10 hWF Th
              have tq_264 := rd_eq hr_263
              exact py_iret G0 hr rfl hlk hw ⟨⟨by omega, by omega⟩, (by first | omega | (intro q; omega)), (by first | omega | (intro q; omega)), (by first | exact RVF_0 hgo (by omega) (by omega) | exact False.elim (by omega)), (fun hr => by first | exact hVDw.1.2.trans (rv_fm_e hgo (by omega) (by omega)).symm | exact absurd hr (by omega)), hWF, hRP, hKP, hVO⟩ dX10_faultOf_67
            · skip
              have tc_253 := ti_ne c_253
              refine lv_aload_n G0.1 G0.2.1 dX10_faultOf_56 rfl (lv_at hl 3 rfl) ?_
              obtain ⟨v_265, v_266, v_267, hr_270, b_268, b_269⟩ := wg_8 hWF Tt
              have bv_267 := wf_free v_267
              have tq_271 := tp_eq hr_270
              refine py_calli hw (va_runV (As := []) (rest := []) G0 (c_X8_next l E G L_240 f_241 H_242.size t gb nb (rs_sk gb nb wb.1.2) hG hWF Tt (show tp_l f_241 t = nb ∧ tp_a f_241 t = (rs_sk gb nb wb.1.2) by omega) (show 0 ≤ (rs_sk gb nb wb.1.2) ∧ nb ≤ 160 by omega) hTB) (cwV 0 G0.2.2.2.2 g_X10_faultOf_X8_next_39 rfl rfl rfl (by decide +kernel) ⟨(Nat.le_of_ble_eq_true rfl), (Nat.le_of_ble_eq_true rfl)⟩) (py_preV hw (C := RX8) (T := TX8) (N := 4) rfl hr_270) rfl rfl hl.1 rfl (lv_room (Nat.le_of_ble_eq_true rfl)) dX10_faultOf_57 ⟨(Nat.le_of_ble_eq_true rfl), (Nat.le_of_ble_eq_true rfl)⟩) (fun r_276 L_272 f_273 H_274 locs hp_275 hw => ?_)
              obtain ⟨en_277, en_278, en_279, en_280, en_281, hWF, hq_282, kp_283⟩ := hp_275
              have hVO := hVO.kp kp_283 (by decide)
              have hTB := (gfn_kp (kp_f kp_283 (wt_8 hG Tt) (by decide) (by decide) (fun _ => by decide))).trans hTB
              have hDR := (congrArg dr_v (kp_f kp_283 Th (by decide) (by decide) (fun _ => by decide))).trans hDR
              have hVDw := hVDw.same (kp_f kp_283 hTv (by decide) (by decide) (fun _ => by decide)) (kp_f kp_283 (wt_9 hG hTv).1 (by decide) (by decide) (fun _ => by decide)) (kp_f kp_283 (wt_9 hG hTv).2.2.2.2.2.1 (by decide) (by decide) (fun _ => by decide))
              have hRP := hRP.trans hq_282
              have hKP := hKP.trans kp_283 (by decide) (by decide)
              rw [rs_sk_idem] at en_281
              have br_276 := wf_free r_276
              refine lv_if_eq (tgt := 68) G0.1 G0.2.1 dX10_faultOf_60 (by decide) (fun c_284 => ?_) (fun c_284 => ?_)
              · skip
                have tc_284 := ti_eq c_284
                clear en_277
                refine lv_aload_n G0.1 G0.2.1 dX10_faultOf_68 rfl (lv_at hl 2 rfl) ?_
                obtain ⟨r_285, hr_287, ty_286⟩ := wg_10 hWF Th
                have tq_288 := rd_eq hr_287
                refine py_get (C := RX10) (T := TX10) (N := 2) (k := 1) (v := .ref r_285) G0 hw in_X10_faultOf_X10 rfl hr_287 (by decide) (by decide +kernel) rfl dX10_faultOf_69 ?_
                obtain ⟨t_289, t_290, t_291, t_292, t_293, t_294, t_295, t_296⟩ := wt_9 hG ty_286
                obtain ⟨v_297, v_298, hr_301, b_299, b_300⟩ := wg_9 hWF ty_286
                have tq_302 := va_eq hr_301
                refine py_calli hw (va_runV (As := []) (rest := []) G0 (c_X9_isWhole l E G L_272 f_273 H_274.size r_285 wb.2 hG hWF ty_286 (hVDw.at (hDR.symm.trans (dr_eq hr_287)))) (cwV 0 G0.2.2.2.2 g_X10_faultOf_X9_isWhole_43 rfl rfl rfl (by decide +kernel) ⟨(Nat.le_of_ble_eq_true rfl), (Nat.le_of_ble_eq_true rfl)⟩) (py_preV hw (C := RX9) (T := TX9) (N := 10) rfl hr_301) rfl rfl hl.1 rfl (lv_room (Nat.le_of_ble_eq_true rfl)) dX10_faultOf_72 ⟨(Nat.le_of_ble_eq_true rfl), (Nat.le_of_ble_eq_true rfl)⟩) (fun r_307 L_303 f_304 H_305 locs hp_306 hw => ?_)
                obtain ⟨b_311, en_308, en_309, en_310, rfl, rfl⟩ := hp_306
                refine lv_if_eq (tgt := 82) G0.1 G0.2.1 dX10_faultOf_75 (by decide) (fun c_312 => ?_) (fun c_312 => ?_)
                · skip
                  have tc_312 := ti_eq c_312
                  clear en_308
                  refine lv_aload_n G0.1 G0.2.1 dX10_faultOf_82 rfl (lv_at hl 3 rfl) ?_
                  obtain ⟨v_313, v_314, v_315, hr_318, b_316, b_317⟩ := wg_8 hWF Tt
                  have bv_315 := wf_free v_315
                  have tq_319 := tp_eq hr_318
                  refine py_get (C := RX8) (T := TX8) (N := 4) (k := 1) (v := .int v_313) G0 hw in_X10_faultOf_X8 rfl hr_318 (by decide) (by decide +kernel) rfl dX10_faultOf_83 ?_
                  exact py_iret G0 hr rfl hlk hw ⟨⟨by omega, by omega⟩, (by first | omega | (intro q; omega)), (by first | omega | (intro q; omega)), (by first | exact RVF_y hgo (by omega) (by omega) (fun hl => hq3 _ (by omega) hl (by omega)) (en_309 (by omega)) (by omega) | exact RVF_n hgo (by omega) (by omega) (fun hl => hq3 _ (by omega) hl (by omega)) (en_310 (by omega)) (by omega) | exact False.elim (by omega)), (fun hr => by first | exact hVDw.1.2.trans (rv_fm_e hgo (by omega) (by omega)).symm | exact absurd hr (by omega)), hWF, hRP, hKP, hVO⟩ dX10_faultOf_86
                · skip
                  have tc_312 := ti_ne c_312
                  replace en_308 := en_308 (by omega)
                  refine lv_iconst (v := (-1)) G0.1 G0.2.1 dX10_faultOf_78 (by decide) ?_
                  refine lv_goto (tgt := 86) G0.1 G0.2.1 dX10_faultOf_79 (by decide) ?_
                  obtain ⟨v_320, v_321, v_322, hr_325, b_323, b_324⟩ := wg_8 hWF Tt
                  have bv_322 := wf_free v_322
                  have tq_326 := tp_eq hr_325
                  exact py_iret G0 hr rfl hlk hw ⟨⟨by omega, by omega⟩, (by first | omega | (intro q; omega)), (by first | omega | (intro q; omega)), (by first | exact RVF_y hgo (by omega) (by omega) (fun hl => hq3 _ (by omega) hl (by omega)) (en_309 (by omega)) (by omega) | exact RVF_n hgo (by omega) (by omega) (fun hl => hq3 _ (by omega) hl (by omega)) (en_310 (by omega)) (by omega) | exact False.elim (by omega)), (fun hr => by first | exact hVDw.1.2.trans (rv_fm_e hgo (by omega) (by omega)).symm | exact absurd hr (by omega)), hWF, hRP, hKP, hVO⟩ dX10_faultOf_86
              · skip
                have tc_284 := ti_ne c_284
                replace en_277 := en_277 (by omega)
                refine lv_aload_n G0.1 G0.2.1 dX10_faultOf_63 rfl (lv_at hl 3 rfl) ?_
                obtain ⟨v_327, v_328, v_329, hr_332, b_330, b_331⟩ := wg_8 hWF Tt
                have bv_329 := wf_free v_329
                have tq_333 := tp_eq hr_332
                refine py_get (C := RX8) (T := TX8) (N := 4) (k := 2) (v := .int v_328) G0 hw in_X10_faultOf_X8 rfl hr_332 (by decide) (by decide +kernel) rfl dX10_faultOf_64 ?_
                obtain ⟨r_334, hr_336, ty_335⟩ := wg_10 hWF Th
                have tq_337 := rd_eq hr_336
                exact py_iret G0 hr rfl hlk hw ⟨⟨by omega, by omega⟩, (by first | omega | (intro q; omega)), (by first | omega | (intro q; omega)), (by first | exact RVF_p hgo (by omega) (by omega) (by omega) (by omega) | exact False.elim (by omega)), (fun hr => by first | exact hVDw.1.2.trans (rv_fm_e hgo (by omega) (by omega)).symm | exact absurd hr (by omega)), hWF, hRP, hKP, hVO⟩ dX10_faultOf_67
          · skip
            have tc_252 := ti_ne c_252
            replace en_247 := en_247 (by omega)
            clear en_248
            refine lv_aload_n G0.1 G0.2.1 dX10_faultOf_40 rfl (lv_at hl 2 rfl) ?_
            refine lv_aload_n G0.1 G0.2.1 dX10_faultOf_41 rfl (lv_at hl 3 rfl) ?_
            obtain ⟨r_338, hr_340, ty_339⟩ := wg_10 hWF Th
            have tq_341 := rd_eq hr_340
            refine py_calli hw (va_runV (As := [.ref t]) (rest := []) G0 (c_X10_readClause l E G L_240 f_241 H_242.size h t gb nb (rs_sk gb nb wb.1.2 + 1) vb wb.2 hG hWF Th Tt (show tp_l f_241 t = nb ∧ tp_a f_241 t = (rs_sk gb nb wb.1.2 + 1) by omega) (show 0 ≤ (rs_sk gb nb wb.1.2 + 1) ∧ nb ≤ 160 by omega) hTv hDR hVDw hTB) (cwV 1 G0.2.2.2.2 g_X10_faultOf_X10_readClause_31 rfl rfl rfl (by decide +kernel) ⟨(Nat.le_of_ble_eq_true rfl), (Nat.le_of_ble_eq_true rfl)⟩) (py_preV hw (C := RX10) (T := TX10) (N := 2) rfl hr_340) rfl rfl hl.1 rfl (lv_room (Nat.le_of_ble_eq_true rfl)) dX10_faultOf_42 ⟨(Nat.le_of_ble_eq_true rfl), (Nat.le_of_ble_eq_true rfl)⟩) (fun r_346 L_342 f_343 H_344 locs hp_345 hw => ?_)
            obtain ⟨b_352, en_347, en_348, en_349, en_350, en_351, hWF, hq_353, kp_354, vo_355⟩ := hp_345
            have hVO := vo_tr10 hVO hKP Th (by decide) vo_355
            have hTB := (gfn_kp (kp_f kp_354 (wt_8 hG Tt) (by decide) (by decide) (fun _ => by decide))).trans hTB
            have hDR := (congrArg dr_v (kp_f kp_354 Th (by decide) (by decide) (fun _ => by decide))).trans hDR
            have hRP := hRP.trans hq_353
            have hKP := hKP.trans kp_354 (by decide) (by decide)
            have hr_340 := kp_at kp_354 hWF Th (by decide) (by decide) (by decide) hr_340
            have tq_356 := rd_eq hr_340
            refine lv_istore_n (lv' := [(2, .int r_346), (3, .int v_59), (0, .ref h), (1, .ref t)]) G0.1 G0.2.1 dX10_faultOf_45 rfl hl (by decide) rfl (fun ls hl => ?_)
            obtain ⟨x_357, ex_357⟩ : ∃ y : Int32, y = v_59 + 1 := ⟨_, rfl⟩
            first | have tx_357 := ti_add ex_357 (by omega) (by omega) | skip
            refine lv_iinc (v := x_357) (lv' := [(3, .int x_357), (2, .int r_346), (0, .ref h), (1, .ref t)]) G0.1 G0.2.1 dX10_faultOf_46 hl (k := 1) rfl (show _ + (1 : Int32) = _ from ex_357.symm) (by decide) rfl (fun ls hl => ?_)
            refine lv_goto (tgt := 20) G0.1 G0.2.1 dX10_faultOf_49 (by decide) ?_
            exact ih_20 ((2147483647 - x_357.toInt).toNat) (by omega) x_357 r_346 L_342 f_343 _ _ ls rfl ⟨by omega, by omega⟩ ⟨by omega, by omega⟩ hWF hRP hKP hVO hTB hDR (by first | omega | (intros; omega)) (by first | omega | (intros; omega)) (by first | omega | (intros; omega)) ⟨_, hgo.trans ((rv_af_1 (by omega) (by omega)).trans (rv_go_af (fun hz => by have h1 := en_350.1; omega))), en_351, en_350⟩ hw (lv_sub hl [0, 1, 2, 3] rfl)
  exact lo_20 _ 0 r_48 L_44 f_45 _ _ ls rfl ⟨by omega, by omega⟩ ⟨by omega, by omega⟩ hWF hRP hKP hVO hTB hDR (by first | omega | (intros; omega)) (by first | omega | (intros; omega)) (by first | omega | (intros; omega)) ⟨_, rv_go_af (fun hz => by have h1 := en_52.1; omega), en_53, en_52⟩ hw (lv_sub hl [0, 1, 2, 3] rfl)
