theorem dX10_readClause_0 : decode cX10_readClause 0 = .ok (.aload_n 1, 1) := by decide +kernel
theorem dX10_readClause_1 : decode cX10_readClause 1 = .ok (.invokevirtual 39, 3) := by decide +kernel
theorem dX10_readClause_4 : decode cX10_readClause 4 = .ok (.istore_n 2, 1) := by decide +kernel
theorem dX10_readClause_5 : decode cX10_readClause 5 = .ok (.iload_n 2, 1) := by decide +kernel
theorem dX10_readClause_6 : decode cX10_readClause 6 = .ok (.bipush 108, 2) := by decide +kernel
theorem dX10_readClause_8 : decode cX10_readClause 8 = .ok (.if_icmp .ne 45, 3) := by decide +kernel
theorem dX10_readClause_11 : decode cX10_readClause 11 = .ok (.aload_n 0, 1) := by decide +kernel
theorem dX10_readClause_12 : decode cX10_readClause 12 = .ok (.getfield 18, 3) := by decide +kernel
theorem dX10_readClause_15 : decode cX10_readClause 15 = .ok (.getfield 50, 3) := by decide +kernel
theorem dX10_readClause_18 : decode cX10_readClause 18 = .ok (.bipush 8, 2) := by decide +kernel
theorem dX10_readClause_20 : decode cX10_readClause 20 = .ok (.if_icmp .ge 33, 3) := by decide +kernel
theorem dX10_readClause_23 : decode cX10_readClause 23 = .ok (.aload_n 1, 1) := by decide +kernel
theorem dX10_readClause_24 : decode cX10_readClause 24 = .ok (.dup, 1) := by decide +kernel
theorem dX10_readClause_25 : decode cX10_readClause 25 = .ok (.getfield 22, 3) := by decide +kernel
theorem dX10_readClause_28 : decode cX10_readClause 28 = .ok (.iconst 1, 1) := by decide +kernel
theorem dX10_readClause_29 : decode cX10_readClause 29 = .ok (.iadd, 1) := by decide +kernel
theorem dX10_readClause_30 : decode cX10_readClause 30 = .ok (.putfield 22, 3) := by decide +kernel
theorem dX10_readClause_33 : decode cX10_readClause 33 = .ok (.aload_n 0, 1) := by decide +kernel
theorem dX10_readClause_34 : decode cX10_readClause 34 = .ok (.aload_n 1, 1) := by decide +kernel
theorem dX10_readClause_35 : decode cX10_readClause 35 = .ok (.iconst 0, 1) := by decide +kernel
theorem dX10_readClause_36 : decode cX10_readClause 36 = .ok (.invokevirtual 53, 3) := by decide +kernel
theorem dX10_readClause_39 : decode cX10_readClause 39 = .ok (.istore_n 3, 1) := by decide +kernel
theorem dX10_readClause_40 : decode cX10_readClause 40 = .ok (.aload_n 0, 1) := by decide +kernel
theorem dX10_readClause_41 : decode cX10_readClause 41 = .ok (.getfield 18, 3) := by decide +kernel
theorem dX10_readClause_44 : decode cX10_readClause 44 = .ok (.aload_n 0, 1) := by decide +kernel
theorem dX10_readClause_45 : decode cX10_readClause 45 = .ok (.getfield 11, 3) := by decide +kernel
theorem dX10_readClause_48 : decode cX10_readClause 48 = .ok (.invokevirtual 57, 3) := by decide +kernel
theorem dX10_readClause_51 : decode cX10_readClause 51 = .ok (.iload_n 3, 1) := by decide +kernel
theorem dX10_readClause_52 : decode cX10_readClause 52 = .ok (.ireturn, 1) := by decide +kernel
theorem dX10_readClause_53 : decode cX10_readClause 53 = .ok (.iload_n 2, 1) := by decide +kernel
theorem dX10_readClause_54 : decode cX10_readClause 54 = .ok (.bipush 107, 2) := by decide +kernel
theorem dX10_readClause_56 : decode cX10_readClause 56 = .ok (.if_icmp .ne 45, 3) := by decide +kernel
theorem dX10_readClause_59 : decode cX10_readClause 59 = .ok (.aload_n 0, 1) := by decide +kernel
theorem dX10_readClause_60 : decode cX10_readClause 60 = .ok (.getfield 18, 3) := by decide +kernel
theorem dX10_readClause_63 : decode cX10_readClause 63 = .ok (.getfield 61, 3) := by decide +kernel
theorem dX10_readClause_66 : decode cX10_readClause 66 = .ok (.bipush 10, 2) := by decide +kernel
theorem dX10_readClause_68 : decode cX10_readClause 68 = .ok (.if_icmp .ge 33, 3) := by decide +kernel
theorem dX10_readClause_71 : decode cX10_readClause 71 = .ok (.aload_n 1, 1) := by decide +kernel
theorem dX10_readClause_72 : decode cX10_readClause 72 = .ok (.dup, 1) := by decide +kernel
theorem dX10_readClause_73 : decode cX10_readClause 73 = .ok (.getfield 22, 3) := by decide +kernel
theorem dX10_readClause_76 : decode cX10_readClause 76 = .ok (.iconst 1, 1) := by decide +kernel
theorem dX10_readClause_77 : decode cX10_readClause 77 = .ok (.iadd, 1) := by decide +kernel
theorem dX10_readClause_78 : decode cX10_readClause 78 = .ok (.putfield 22, 3) := by decide +kernel
theorem dX10_readClause_81 : decode cX10_readClause 81 = .ok (.aload_n 0, 1) := by decide +kernel
theorem dX10_readClause_82 : decode cX10_readClause 82 = .ok (.aload_n 1, 1) := by decide +kernel
theorem dX10_readClause_83 : decode cX10_readClause 83 = .ok (.iconst 4, 1) := by decide +kernel
theorem dX10_readClause_84 : decode cX10_readClause 84 = .ok (.invokevirtual 53, 3) := by decide +kernel
theorem dX10_readClause_87 : decode cX10_readClause 87 = .ok (.istore_n 3, 1) := by decide +kernel
theorem dX10_readClause_88 : decode cX10_readClause 88 = .ok (.aload_n 0, 1) := by decide +kernel
theorem dX10_readClause_89 : decode cX10_readClause 89 = .ok (.getfield 18, 3) := by decide +kernel
theorem dX10_readClause_92 : decode cX10_readClause 92 = .ok (.aload_n 0, 1) := by decide +kernel
theorem dX10_readClause_93 : decode cX10_readClause 93 = .ok (.getfield 11, 3) := by decide +kernel
theorem dX10_readClause_96 : decode cX10_readClause 96 = .ok (.invokevirtual 64, 3) := by decide +kernel
theorem dX10_readClause_99 : decode cX10_readClause 99 = .ok (.iload_n 3, 1) := by decide +kernel
theorem dX10_readClause_100 : decode cX10_readClause 100 = .ok (.ireturn, 1) := by decide +kernel
theorem dX10_readClause_101 : decode cX10_readClause 101 = .ok (.iconst 0, 1) := by decide +kernel
theorem dX10_readClause_102 : decode cX10_readClause 102 = .ok (.ireturn, 1) := by decide +kernel
def w_X10_readClause : List Cond := .code yX10_readClause cX10_readClause 4 (some .boolean) :: ([Cond.methodLink RX10 39 yX8_next, Cond.instanceMethod yX8_next, Cond.selects RX8 yX8_next yX8_next, Cond.initialized RX8, Cond.fieldLink RX10 18 "HeadYear$ValleyReader" "draft" "LHeadYear$Valley;", Cond.fieldLink RX10 61 "HeadYear$Valley" "families" "I", Cond.fieldLink RX10 22 "HeadYear$Tape" "at" "I", Cond.methodLink RX10 53 yX10_readItems, Cond.instanceMethod yX10_readItems, Cond.selects RX10 yX10_readItems yX10_readItems, Cond.initialized RX10, Cond.fieldLink RX10 11 "HeadYear$ValleyReader" "items" "[I", Cond.methodLink RX10 64 yX9_addFamily, Cond.instanceMethod yX9_addFamily, Cond.selects RX9 yX9_addFamily yX9_addFamily, Cond.initialized RX9, Cond.fieldLink RX10 50 "HeadYear$Valley" "levels" "I", Cond.methodLink RX10 57 yX9_addLevel, Cond.instanceMethod yX9_addLevel, Cond.selects RX9 yX9_addLevel yX9_addLevel] ++ (u_ws RX10 TX10 2 ++ (u_ws RX9 TX9 10 ++ (u_ws RX8 TX8 4 ++ (w_X8_next ++ (w_X10_readItems ++ (w_X9_addFamily ++ (w_X9_addLevel ++ ([])))))))))
theorem in_X10_readClause_X10 : ∀ w ∈ u_ws RX10 TX10 2, w ∈ w_X10_readClause := fun _ h => List.mem_cons_of_mem _ (List.mem_append_right _ (List.mem_append_left _ h))
theorem in_X10_readClause_X9 : ∀ w ∈ u_ws RX9 TX9 10, w ∈ w_X10_readClause := fun _ h => List.mem_cons_of_mem _ (List.mem_append_right _ (List.mem_append_right _ (List.mem_append_left _ h)))
theorem in_X10_readClause_X8 : ∀ w ∈ u_ws RX8 TX8 4, w ∈ w_X10_readClause := fun _ h => List.mem_cons_of_mem _ (List.mem_append_right _ (List.mem_append_right _ (List.mem_append_right _ (List.mem_append_left _ h))))
theorem gg_X10_readClause_X8_next : GoodIn w_X10_readClause w_X8_next := goodIn_sub (fun _ h => List.mem_cons_of_mem _ (List.mem_append_right _ (List.mem_append_right _ (List.mem_append_right _ (List.mem_append_right _ (List.mem_append_left _ h)))))) (by decide +kernel)
theorem gg_X10_readClause_X10_readItems : GoodIn w_X10_readClause w_X10_readItems := goodIn_sub (fun _ h => List.mem_cons_of_mem _ (List.mem_append_right _ (List.mem_append_right _ (List.mem_append_right _ (List.mem_append_right _ (List.mem_append_right _ (List.mem_append_left _ h))))))) (by decide +kernel)
theorem gg_X10_readClause_X9_addFamily : GoodIn w_X10_readClause w_X9_addFamily := goodIn_sub (fun _ h => List.mem_cons_of_mem _ (List.mem_append_right _ (List.mem_append_right _ (List.mem_append_right _ (List.mem_append_right _ (List.mem_append_right _ (List.mem_append_right _ (List.mem_append_left _ h)))))))) (by decide +kernel)
theorem gg_X10_readClause_X9_addLevel : GoodIn w_X10_readClause w_X9_addLevel := goodIn_sub (fun _ h => List.mem_cons_of_mem _ (List.mem_append_right _ (List.mem_append_right _ (List.mem_append_right _ (List.mem_append_right _ (List.mem_append_right _ (List.mem_append_right _ (List.mem_append_right _ (List.mem_append_left _ h))))))))) (by decide +kernel)
theorem g_X10_readClause_X10_readItems_53 : GoodIn w_X10_readClause (wsV RX10 53 RX10 yX10_readItems w_X10_readItems) := goodIn_app (goodIn_of _ (by decide +kernel)) gg_X10_readClause_X10_readItems
theorem g_X10_readClause_X8_next_39 : GoodIn w_X10_readClause (wsV RX10 39 RX8 yX8_next w_X8_next) := goodIn_app (goodIn_of _ (by decide +kernel)) gg_X10_readClause_X8_next
theorem g_X10_readClause_X9_addFamily_64 : GoodIn w_X10_readClause (wsV RX10 64 RX9 yX9_addFamily w_X9_addFamily) := goodIn_app (goodIn_of _ (by decide +kernel)) gg_X10_readClause_X9_addFamily
theorem g_X10_readClause_X9_addLevel_57 : GoodIn w_X10_readClause (wsV RX10 57 RX9 yX9_addLevel w_X9_addLevel) := goodIn_app (goodIn_of _ (by decide +kernel)) gg_X10_readClause_X9_addLevel
set_option maxHeartbeats 4000000 in
set_option maxRecDepth 100000 in
theorem c_X10_readClause (l : Launch) (E : py_E) (G : wf_G) (L : List Nat) (f : py_F) (sz : Nat) (h : Nat) (t : Nat) (gb : rs_B) (nb : Int) (pb : Int) (vb : Nat) (sb : rv_S) (hG : GT G) (hWF : WF E G L f) (Th : G.1 h = 11) (Tt : G.1 t = 9) (hp0 : tp_l f t = nb ∧ tp_a f t = pb) (hp1 : 0 ≤ pb ∧ nb ≤ 160) (hq0 : G.1 vb = 10) (hq1 : dr_v (f h) = vb) (hq2 : VD f G vb sb) (hq3 : gfn f (G.2 t 0) = gb) : Met l yX10_readClause w_X10_readClause ({ frames := 4, cells := 0, slots := 0, locals := 90 }) (py_Pc E [.ref h, .ref t] L f sz) (py_Qi E L f sz (fun r L1 f1 => (0 ≤ r.toInt ∧ r.toInt ≤ 1) ∧ (tp_l f1 t = nb) ∧ (pb ≤ tp_a f1 t) ∧ (r.toInt ≠ 0 → pb + 1 ≤ tp_a f1 t ∧ tp_a f1 t ≤ nb) ∧ (rc_X (rv_cl gb nb sb pb) r.toInt (tp_a f1 t)) ∧ (VD f1 G vb (rv_cl gb nb sb pb).2) ∧ WF E G L1 f1 ∧ RP E G f f1 ∧ KP G [9, 36, 10, 24, 80, 27, 25, 26] false f f1 ∧ VO G f f1 (dr_v (f h)))) 0 0 (va_A (va_pl L f) sz) := by
  refine Met.ofW (cc := cX10_readClause) (maxL := 4) (ret := (some .boolean)) (by decide) rfl ?_
  intro p e s m args below meth c s₁ B hml hv
  obtain ⟨rfl, rfl, hw⟩ := py_start hv
  have G0 : CallFix p m c cX10_readClause 4 s _ w_X10_readClause RX10 := ⟨B.exec, B.bytes, hml, findClass_of_methodNamed B.named, atoms_spec (ws := w_X10_readClause) B.pre⟩
  have hr := B.returns
  have hlk := B.notSynchronized
  have kcm1 : (-1 : Int32).toInt = -1 := rfl
  have kc0 : (0 : Int32).toInt = 0 := rfl
  have kc1 : (1 : Int32).toInt = 1 := rfl
  have kc4 : (4 : Int32).toInt = 4 := rfl
  have kc8 : (8 : Int32).toInt = 8 := rfl
  have kc10 : (10 : Int32).toInt = 10 := rfl
  have kc107 : (107 : Int32).toInt = 107 := rfl
  have kc108 : (108 : Int32).toInt = 108 := rfl
  have hl := lv_entry ([.ref h, .ref t]) (n := 4) (Nat.le_of_ble_eq_true rfl)
  rw [lg_entry_eq]
  generalize (lg_sl ([.ref h, .ref t]) ++ List.replicate (4 - (lg_sl ([.ref h, .ref t])).length) Slot.unset).toArray = ls at hl ⊢
  have hl : lv_has ls 4 [(0, .ref h), (1, .ref t)] := hl
  have hRP : RP E G f f := RP.refl
  have hKP : KP G [9, 36, 10, 24, 80, 27, 25, 26] false f f := KP.refl
  have hVO : VO G f f (dr_v (f h)) := VO.refl
  have hTv := hq0
  have hDR := hq1
  have hVD := hq2
  have hTB := hq3
  refine lv_aload_n G0.1 G0.2.1 dX10_readClause_0 rfl (lv_at hl 1 rfl) ?_
  have t_1 := wt_8 hG Tt
  obtain ⟨v_2, v_3, v_4, hr_7, b_5, b_6⟩ := wg_8 hWF Tt
  have bv_4 := wf_free v_4
  have tq_8 := tp_eq hr_7
  refine py_calli hw (va_runV (As := []) (rest := []) G0 (c_X8_next l E G L f s.heap.size t gb nb pb hG hWF Tt (show tp_l f t = nb ∧ tp_a f t = pb by omega) (show 0 ≤ pb ∧ nb ≤ 160 by omega) hTB) (cwV 0 G0.2.2.2.2 g_X10_readClause_X8_next_39 rfl rfl rfl (by decide +kernel) ⟨(Nat.le_of_ble_eq_true rfl), (Nat.le_of_ble_eq_true rfl)⟩) (py_preV hw (C := RX8) (T := TX8) (N := 4) rfl hr_7) rfl rfl hl.1 rfl (lv_room (Nat.le_of_ble_eq_true rfl)) dX10_readClause_1 ⟨(Nat.le_of_ble_eq_true rfl), (Nat.le_of_ble_eq_true rfl)⟩) (fun r_13 L_9 f_10 H_11 locs hp_12 hw => ?_)
  obtain ⟨en_14, en_15, en_16, en_17, en_18, hWF, hq_19, kp_20⟩ := hp_12
  have hVO := hVO.kp kp_20 (by decide)
  have hTB := (gfn_kp (kp_f kp_20 (wt_8 hG Tt) (by decide) (by decide) (fun _ => by decide))).trans hTB
  have hDR := (congrArg dr_v (kp_f kp_20 Th (by decide) (by decide) (fun _ => by decide))).trans hDR
  have hVD := hVD.same (kp_f kp_20 hTv (by decide) (by decide) (fun _ => by decide)) (kp_f kp_20 (wt_9 hG hTv).1 (by decide) (by decide) (fun _ => by decide)) (kp_f kp_20 (wt_9 hG hTv).2.2.2.2.2.1 (by decide) (by decide) (fun _ => by decide))
  have hRP := hRP.trans hq_19
  have hKP := hKP.trans kp_20 (by decide) (by decide)
  have br_13 := wf_free r_13
  refine lv_istore_n (lv' := [(2, .int r_13), (0, .ref h), (1, .ref t)]) G0.1 G0.2.1 dX10_readClause_4 rfl hl (by decide) rfl (fun ls hl => ?_)
  refine lv_iload_n G0.1 G0.2.1 dX10_readClause_5 rfl (lv_at hl 0 rfl) ?_
  refine lv_bipush (v := 108) G0.1 G0.2.1 dX10_readClause_6 (by decide) ?_
  refine lv_icmp_ne (tgt := 53) G0.1 G0.2.1 dX10_readClause_8 (by decide) (fun c_21 => ?_) (fun c_21 => ?_)
  · skip
    have tc_21 := ti_ne c_21
    refine lv_iload_n G0.1 G0.2.1 dX10_readClause_53 rfl (lv_at hl 0 rfl) ?_
    refine lv_bipush (v := 107) G0.1 G0.2.1 dX10_readClause_54 (by decide) ?_
    refine lv_icmp_ne (tgt := 101) G0.1 G0.2.1 dX10_readClause_56 (by decide) (fun c_22 => ?_) (fun c_22 => ?_)
    · skip
      have tc_22 := ti_ne c_22
      refine lv_iconst (v := 0) G0.1 G0.2.1 dX10_readClause_101 (by decide) ?_
      have t_23 := wt_10 hG Th
      obtain ⟨r_24, hr_26, ty_25⟩ := wg_10 hWF Th
      have tq_27 := rd_eq hr_26
      obtain ⟨v_28, v_29, v_30, hr_33, b_31, b_32⟩ := wg_8 hWF Tt
      have bv_30 := wf_free v_30
      have tq_34 := tp_eq hr_33
      exact py_iret G0 hr rfl hlk hw ⟨⟨by omega, by omega⟩, (by first | omega | (intro q; omega)), (by first | omega | (intro q; omega)), (by first | omega | (intro q; omega)), (by first | exact rc_0 (by omega) (by omega) (by omega) (by omega)), (by first | exact VD.cl_0 hVD (by omega) (by omega)), hWF, hRP, hKP, hVO⟩ dX10_readClause_102
    · skip
      have tc_22 := ti_eq c_22
      replace en_14 := en_14 (by omega)
      refine lv_aload_n G0.1 G0.2.1 dX10_readClause_59 rfl (lv_at hl 1 rfl) ?_
      have t_35 := wt_10 hG Th
      obtain ⟨r_36, hr_38, ty_37⟩ := wg_10 hWF Th
      have tq_39 := rd_eq hr_38
      refine py_get (C := RX10) (T := TX10) (N := 2) (k := 1) (v := .ref r_36) G0 hw in_X10_readClause_X10 rfl hr_38 (by decide) (by decide +kernel) rfl dX10_readClause_60 ?_
      obtain ⟨t_40, t_41, t_42, t_43, t_44, t_45, t_46, t_47⟩ := wt_9 hG ty_37
      obtain ⟨v_48, v_49, hr_52, b_50, b_51⟩ := wg_9 hWF ty_37
      have tq_53 := va_eq hr_52
      refine py_get (C := RX9) (T := TX9) (N := 10) (k := 9) (v := .int v_49) G0 hw in_X10_readClause_X9 rfl hr_52 (by decide) (by decide +kernel) rfl dX10_readClause_63 ?_
      have hV1 := (hVD.at (hDR.symm.trans (dr_eq hr_38))).1
      refine lv_bipush (v := 10) G0.1 G0.2.1 dX10_readClause_66 (by decide) ?_
      refine lv_icmp_ge (tgt := 101) G0.1 G0.2.1 dX10_readClause_68 (by decide) (fun c_54 => ?_) (fun c_54 => ?_)
      · skip
        have tc_54 := ti_le c_54
        refine lv_iconst (v := 0) G0.1 G0.2.1 dX10_readClause_101 (by decide) ?_
        obtain ⟨v_55, v_56, v_57, hr_60, b_58, b_59⟩ := wg_8 hWF Tt
        have bv_57 := wf_free v_57
        have tq_61 := tp_eq hr_60
        exact py_iret G0 hr rfl hlk hw ⟨⟨by omega, by omega⟩, (by first | omega | (intro q; omega)), (by first | omega | (intro q; omega)), (by first | omega | (intro q; omega)), (by first | exact rc_0 (by omega) (by omega) (by omega) (by omega)), (by first | exact VD.cl_0 hVD (by omega) (by omega)), hWF, hRP, hKP, hVO⟩ dX10_readClause_102
      · skip
        have tc_54 := ti_nle c_54
        refine lv_aload_n G0.1 G0.2.1 dX10_readClause_71 rfl (lv_at hl 2 rfl) ?_
        refine lv_dup G0.1 G0.2.1 dX10_readClause_72 rfl ?_
        obtain ⟨v_62, v_63, v_64, hr_67, b_65, b_66⟩ := wg_8 hWF Tt
        have bv_64 := wf_free v_64
        have tq_68 := tp_eq hr_67
        refine py_get (C := RX8) (T := TX8) (N := 4) (k := 2) (v := .int v_63) G0 hw in_X10_readClause_X8 rfl hr_67 (by decide) (by decide +kernel) rfl dX10_readClause_73 ?_
        refine lv_iconst (v := 1) G0.1 G0.2.1 dX10_readClause_76 (by decide) ?_
        refine lv_iadd G0.1 G0.2.1 dX10_readClause_77 ?_
        refine lv_topi (fun x_69 ex_69 => ?_)
        first | have tx_69 := ti_add ex_69 (by omega) (by omega) | skip
        refine py_put (C := RX8) (T := TX8) (N := 4) (k := 2) (v := .int x_69) (fs' := [.ref (G.2 t 0), .int v_62, .int x_69, .int v_64]) (ty0 := tyX8) G0 hw tyX8_ok nmX8 in_X10_readClause_X8 rfl hr_67 (by decide) (by decide +kernel) rfl rfl rfl rfl (Nat.le_of_ble_eq_true rfl) rfl dX10_readClause_78 (fun f_70 H_71 locs h_72 x_73 hw => ?_)
        have hTB := (gfn_kp (kp_f (KP.refl.upd hWF x_73 Tt (Or.inl (by decide)) : KP G [9] false f_10 f_70) (wt_8 hG Tt) (by decide) (by decide) (fun _ => by decide))).trans hTB
        have hDR := (congrArg dr_v (kp_f (KP.refl.upd hWF x_73 Tt (Or.inl (by decide)) : KP G [9] false f_10 f_70) Th (by decide) (by decide) (fun _ => by decide))).trans hDR
        have hVD := hVD.same (kp_f (KP.refl.upd hWF x_73 Tt (Or.inl (by decide)) : KP G [9] false f_10 f_70) hTv (by decide) (by decide) (fun _ => by decide)) (kp_f (KP.refl.upd hWF x_73 Tt (Or.inl (by decide)) : KP G [9] false f_10 f_70) (wt_9 hG hTv).1 (by decide) (by decide) (fun _ => by decide)) (kp_f (KP.refl.upd hWF x_73 Tt (Or.inl (by decide)) : KP G [9] false f_10 f_70) (wt_9 hG hTv).2.2.2.2.2.1 (by decide) (by decide) (fun _ => by decide))
        have hVO := hVO.upd hWF x_73 (Or.inr (by rw [Tt]; omega))
        have hKP := hKP.upd hWF x_73 Tt (Or.inl (by decide))
        have hRP := hRP.trans (rp_upd hG hWF x_73 hr_67.2 h_72.2 (rp_code hG Tt (by decide)) rfl)
        have hWF := wf_upd hWF h_72 x_73 (by rw [Tt]; exact ⟨v_62, x_69, v_64, rfl, ⟨by omega, by omega⟩, ⟨by omega, by omega⟩⟩)
        have tq_74 := tp_eq h_72
        have hr_38 := hr_38.ext x_73 (py_ne_kind hr_38 hr_67 (by decide))
        have tq_75 := rd_eq hr_38
        have hr_52 := hr_52.ext x_73 (py_ne_kind hr_52 hr_67 (by decide))
        have tq_76 := va_eq hr_52
        refine lv_aload_n G0.1 G0.2.1 dX10_readClause_81 rfl (lv_at hl 1 rfl) ?_
        refine lv_aload_n G0.1 G0.2.1 dX10_readClause_82 rfl (lv_at hl 2 rfl) ?_
        refine lv_iconst (v := 4) G0.1 G0.2.1 dX10_readClause_83 (by decide) ?_
        refine py_calli hw (va_runV (As := [.ref t, .int 4]) (rest := []) G0 (c_X10_readItems4 l E G L_9 f_70 H_71.size h t gb nb (rs_sk gb nb pb + 1) hG hWF Th Tt (show tp_l f_70 t = nb ∧ tp_a f_70 t = (rs_sk gb nb pb + 1) by omega) (show 0 ≤ (rs_sk gb nb pb + 1) ∧ nb ≤ 160 by omega) hTB) (cwV 2 G0.2.2.2.2 g_X10_readClause_X10_readItems_53 rfl rfl rfl (by decide +kernel) ⟨(Nat.le_of_ble_eq_true rfl), (Nat.le_of_ble_eq_true rfl)⟩) (py_preV hw (C := RX10) (T := TX10) (N := 2) rfl hr_38) rfl rfl hl.1 rfl (lv_room (Nat.le_of_ble_eq_true rfl)) dX10_readClause_84 ⟨(Nat.le_of_ble_eq_true rfl), (Nat.le_of_ble_eq_true rfl)⟩) (fun r_81 L_77 f_78 H_79 locs hp_80 hw => ?_)
        obtain ⟨b_87, en_82, en_83, en_84, en_85, en_86, hWF, hq_88, kp_89⟩ := hp_80
        have hVO := hVO.kp kp_89 (by decide)
        have hTB := (gfn_kp (kp_f kp_89 (wt_8 hG Tt) (by decide) (by decide) (fun _ => by decide))).trans hTB
        have hDR := (congrArg dr_v (kp_f kp_89 Th (by decide) (by decide) (fun _ => by decide))).trans hDR
        have hVD := hVD.same (kp_f kp_89 hTv (by decide) (by decide) (fun _ => by decide)) (kp_f kp_89 (wt_9 hG hTv).1 (by decide) (by decide) (fun _ => by decide)) (kp_f kp_89 (wt_9 hG hTv).2.2.2.2.2.1 (by decide) (by decide) (fun _ => by decide))
        have hRP := hRP.trans hq_88
        have hKP := hKP.trans kp_89 (by decide) (by decide)
        have hr_38 := kp_at kp_89 hWF Th (by decide) (by decide) (by decide) hr_38
        have tq_90 := rd_eq hr_38
        have hr_52 := kp_at kp_89 hWF ty_37 (by decide) (by decide) (by decide) hr_52
        have tq_91 := va_eq hr_52
        refine lv_istore_n (lv' := [(3, .int r_81), (2, .int r_13), (0, .ref h), (1, .ref t)]) G0.1 G0.2.1 dX10_readClause_87 rfl hl (by decide) rfl (fun ls hl => ?_)
        refine lv_aload_n G0.1 G0.2.1 dX10_readClause_88 rfl (lv_at hl 2 rfl) ?_
        refine py_get (C := RX10) (T := TX10) (N := 2) (k := 1) (v := .ref r_36) G0 hw in_X10_readClause_X10 rfl hr_38 (by decide) (by decide +kernel) rfl dX10_readClause_89 ?_
        refine lv_aload_n G0.1 G0.2.1 dX10_readClause_92 rfl (lv_at hl 2 rfl) ?_
        refine py_get (C := RX10) (T := TX10) (N := 2) (k := 0) (v := .ref (G.2 h 0)) G0 hw in_X10_readClause_X10 rfl hr_38 (by decide) (by decide +kernel) rfl dX10_readClause_93 ?_
        obtain ⟨v_92, v_93, v_94, hr_97, b_95, b_96⟩ := wg_8 hWF Tt
        have bv_94 := wf_free v_94
        have tq_98 := tp_eq hr_97
        refine py_callv hw (va_runV (As := [.ref (G.2 h 0)]) (rest := []) G0 (c_X9_addFamily l E G L_77 f_78 H_79.size r_36 (G.2 h 0) sb hG hWF ty_37 t_35 (show va_f f_78 r_36 < 10 ∧ 0 ≤ it0 f_78 (G.2 h 0) ∧ it0 f_78 (G.2 h 0) ≤ 20 ∧ 0 ≤ it1 f_78 (G.2 h 0) ∧ it1 f_78 (G.2 h 0) ≤ 7 by omega) (hVD.at (hDR.symm.trans (dr_eq hr_38)))) (cwV 1 G0.2.2.2.2 g_X10_readClause_X9_addFamily_64 rfl rfl rfl (by decide +kernel) ⟨(Nat.le_of_ble_eq_true rfl), (Nat.le_of_ble_eq_true rfl)⟩) (py_preV hw (C := RX9) (T := TX9) (N := 10) rfl hr_52) rfl rfl hl.1 rfl (lv_room (Nat.le_of_ble_eq_true rfl)) dX10_readClause_96 ⟨(Nat.le_of_ble_eq_true rfl), (Nat.le_of_ble_eq_true rfl)⟩) (fun L_99 f_100 H_101 locs hp_102 hw => ?_)
        obtain ⟨en_104, hWF, hq_105, kp_106, vo_107⟩ := hp_102
        have hVO := vo_tr9 hVO hKP Th (by decide) hr_38 vo_107
        have hTB := (gfn_kp (kp_f kp_106 (wt_8 hG Tt) (by decide) (by decide) (fun _ => by decide))).trans hTB
        have hDR := (congrArg dr_v (kp_f kp_106 Th (by decide) (by decide) (fun _ => by decide))).trans hDR
        have hRP := hRP.trans hq_105
        have hKP := hKP.trans kp_106 (by decide) (by decide)
        have hr_38 := kp_at kp_106 hWF Th (by decide) (by decide) (by decide) hr_38
        have tq_108 := rd_eq hr_38
        have hr_97 := kp_at kp_106 hWF Tt (by decide) (by decide) (by decide) hr_97
        have tq_109 := tp_eq hr_97
        refine lv_iload_n G0.1 G0.2.1 dX10_readClause_99 rfl (lv_at hl 0 rfl) ?_
        exact py_iret G0 hr (ti_bool (by omega) (by omega)) hlk hw ⟨⟨by omega, by omega⟩, (by first | omega | (intro q; omega)), (by first | omega | (intro q; omega)), (by first | omega | (intro q; omega)), (by first | exact rc_k en_86 (by omega) (by omega) (by omega)), (by first | exact VD.cl_k (en_104.at ((dr_eq hr_38).symm.trans hDR)) (by omega) (by omega) en_86.2.2.2), hWF, hRP, hKP, hVO⟩ dX10_readClause_100
  · skip
    have tc_21 := ti_eq c_21
    replace en_14 := en_14 (by omega)
    refine lv_aload_n G0.1 G0.2.1 dX10_readClause_11 rfl (lv_at hl 1 rfl) ?_
    have t_110 := wt_10 hG Th
    obtain ⟨r_111, hr_113, ty_112⟩ := wg_10 hWF Th
    have tq_114 := rd_eq hr_113
    refine py_get (C := RX10) (T := TX10) (N := 2) (k := 1) (v := .ref r_111) G0 hw in_X10_readClause_X10 rfl hr_113 (by decide) (by decide +kernel) rfl dX10_readClause_12 ?_
    obtain ⟨t_115, t_116, t_117, t_118, t_119, t_120, t_121, t_122⟩ := wt_9 hG ty_112
    obtain ⟨v_123, v_124, hr_127, b_125, b_126⟩ := wg_9 hWF ty_112
    have tq_128 := va_eq hr_127
    refine py_get (C := RX9) (T := TX9) (N := 10) (k := 8) (v := .int v_123) G0 hw in_X10_readClause_X9 rfl hr_127 (by decide) (by decide +kernel) rfl dX10_readClause_15 ?_
    have hV1 := (hVD.at (hDR.symm.trans (dr_eq hr_113))).1
    refine lv_bipush (v := 8) G0.1 G0.2.1 dX10_readClause_18 (by decide) ?_
    refine lv_icmp_ge (tgt := 53) G0.1 G0.2.1 dX10_readClause_20 (by decide) (fun c_129 => ?_) (fun c_129 => ?_)
    · skip
      have tc_129 := ti_le c_129
      refine lv_iload_n G0.1 G0.2.1 dX10_readClause_53 rfl (lv_at hl 0 rfl) ?_
      refine lv_bipush (v := 107) G0.1 G0.2.1 dX10_readClause_54 (by decide) ?_
      refine lv_icmp_ne (tgt := 101) G0.1 G0.2.1 dX10_readClause_56 (by decide) (fun c_130 => ?_) (fun c_130 => ?_)
      · skip
        have tc_130 := ti_ne c_130
        refine lv_iconst (v := 0) G0.1 G0.2.1 dX10_readClause_101 (by decide) ?_
        obtain ⟨v_131, v_132, v_133, hr_136, b_134, b_135⟩ := wg_8 hWF Tt
        have bv_133 := wf_free v_133
        have tq_137 := tp_eq hr_136
        exact py_iret G0 hr rfl hlk hw ⟨⟨by omega, by omega⟩, (by first | omega | (intro q; omega)), (by first | omega | (intro q; omega)), (by first | omega | (intro q; omega)), (by first | exact rc_0 (by omega) (by omega) (by omega) (by omega)), (by first | exact VD.cl_0 hVD (by omega) (by omega)), hWF, hRP, hKP, hVO⟩ dX10_readClause_102
      · skip
        have tc_130 := ti_eq c_130
        refine lv_aload_n G0.1 G0.2.1 dX10_readClause_59 rfl (lv_at hl 1 rfl) ?_
        refine py_get (C := RX10) (T := TX10) (N := 2) (k := 1) (v := .ref r_111) G0 hw in_X10_readClause_X10 rfl hr_113 (by decide) (by decide +kernel) rfl dX10_readClause_60 ?_
        refine py_get (C := RX9) (T := TX9) (N := 10) (k := 9) (v := .int v_124) G0 hw in_X10_readClause_X9 rfl hr_127 (by decide) (by decide +kernel) rfl dX10_readClause_63 ?_
        have hV1 := (hVD.at (hDR.symm.trans (dr_eq hr_113))).1
        refine lv_bipush (v := 10) G0.1 G0.2.1 dX10_readClause_66 (by decide) ?_
        refine lv_icmp_ge (tgt := 101) G0.1 G0.2.1 dX10_readClause_68 (by decide) (fun c_138 => ?_) (fun c_138 => ?_)
        · skip
          have tc_138 := ti_le c_138
          refine lv_iconst (v := 0) G0.1 G0.2.1 dX10_readClause_101 (by decide) ?_
          obtain ⟨v_139, v_140, v_141, hr_144, b_142, b_143⟩ := wg_8 hWF Tt
          have bv_141 := wf_free v_141
          have tq_145 := tp_eq hr_144
          exact py_iret G0 hr rfl hlk hw ⟨⟨by omega, by omega⟩, (by first | omega | (intro q; omega)), (by first | omega | (intro q; omega)), (by first | omega | (intro q; omega)), (by first | exact rc_0 (by omega) (by omega) (by omega) (by omega)), (by first | exact VD.cl_0 hVD (by omega) (by omega)), hWF, hRP, hKP, hVO⟩ dX10_readClause_102
        · skip
          have tc_138 := ti_nle c_138
          refine lv_aload_n G0.1 G0.2.1 dX10_readClause_71 rfl (lv_at hl 2 rfl) ?_
          refine lv_dup G0.1 G0.2.1 dX10_readClause_72 rfl ?_
          obtain ⟨v_146, v_147, v_148, hr_151, b_149, b_150⟩ := wg_8 hWF Tt
          have bv_148 := wf_free v_148
          have tq_152 := tp_eq hr_151
          refine py_get (C := RX8) (T := TX8) (N := 4) (k := 2) (v := .int v_147) G0 hw in_X10_readClause_X8 rfl hr_151 (by decide) (by decide +kernel) rfl dX10_readClause_73 ?_
          refine lv_iconst (v := 1) G0.1 G0.2.1 dX10_readClause_76 (by decide) ?_
          refine lv_iadd G0.1 G0.2.1 dX10_readClause_77 ?_
          refine lv_topi (fun x_153 ex_153 => ?_)
          first | have tx_153 := ti_add ex_153 (by omega) (by omega) | skip
          refine py_put (C := RX8) (T := TX8) (N := 4) (k := 2) (v := .int x_153) (fs' := [.ref (G.2 t 0), .int v_146, .int x_153, .int v_148]) (ty0 := tyX8) G0 hw tyX8_ok nmX8 in_X10_readClause_X8 rfl hr_151 (by decide) (by decide +kernel) rfl rfl rfl rfl (Nat.le_of_ble_eq_true rfl) rfl dX10_readClause_78 (fun f_154 H_155 locs h_156 x_157 hw => ?_)
          have hTB := (gfn_kp (kp_f (KP.refl.upd hWF x_157 Tt (Or.inl (by decide)) : KP G [9] false f_10 f_154) (wt_8 hG Tt) (by decide) (by decide) (fun _ => by decide))).trans hTB
          have hDR := (congrArg dr_v (kp_f (KP.refl.upd hWF x_157 Tt (Or.inl (by decide)) : KP G [9] false f_10 f_154) Th (by decide) (by decide) (fun _ => by decide))).trans hDR
          have hVD := hVD.same (kp_f (KP.refl.upd hWF x_157 Tt (Or.inl (by decide)) : KP G [9] false f_10 f_154) hTv (by decide) (by decide) (fun _ => by decide)) (kp_f (KP.refl.upd hWF x_157 Tt (Or.inl (by decide)) : KP G [9] false f_10 f_154) (wt_9 hG hTv).1 (by decide) (by decide) (fun _ => by decide)) (kp_f (KP.refl.upd hWF x_157 Tt (Or.inl (by decide)) : KP G [9] false f_10 f_154) (wt_9 hG hTv).2.2.2.2.2.1 (by decide) (by decide) (fun _ => by decide))
          have hVO := hVO.upd hWF x_157 (Or.inr (by rw [Tt]; omega))
          have hKP := hKP.upd hWF x_157 Tt (Or.inl (by decide))
          have hRP := hRP.trans (rp_upd hG hWF x_157 hr_151.2 h_156.2 (rp_code hG Tt (by decide)) rfl)
          have hWF := wf_upd hWF h_156 x_157 (by rw [Tt]; exact ⟨v_146, x_153, v_148, rfl, ⟨by omega, by omega⟩, ⟨by omega, by omega⟩⟩)
          have tq_158 := tp_eq h_156
          have hr_113 := hr_113.ext x_157 (py_ne_kind hr_113 hr_151 (by decide))
          have tq_159 := rd_eq hr_113
          have hr_127 := hr_127.ext x_157 (py_ne_kind hr_127 hr_151 (by decide))
          have tq_160 := va_eq hr_127
          refine lv_aload_n G0.1 G0.2.1 dX10_readClause_81 rfl (lv_at hl 1 rfl) ?_
          refine lv_aload_n G0.1 G0.2.1 dX10_readClause_82 rfl (lv_at hl 2 rfl) ?_
          refine lv_iconst (v := 4) G0.1 G0.2.1 dX10_readClause_83 (by decide) ?_
          refine py_calli hw (va_runV (As := [.ref t, .int 4]) (rest := []) G0 (c_X10_readItems4 l E G L_9 f_154 H_155.size h t gb nb (rs_sk gb nb pb + 1) hG hWF Th Tt (show tp_l f_154 t = nb ∧ tp_a f_154 t = (rs_sk gb nb pb + 1) by omega) (show 0 ≤ (rs_sk gb nb pb + 1) ∧ nb ≤ 160 by omega) hTB) (cwV 2 G0.2.2.2.2 g_X10_readClause_X10_readItems_53 rfl rfl rfl (by decide +kernel) ⟨(Nat.le_of_ble_eq_true rfl), (Nat.le_of_ble_eq_true rfl)⟩) (py_preV hw (C := RX10) (T := TX10) (N := 2) rfl hr_113) rfl rfl hl.1 rfl (lv_room (Nat.le_of_ble_eq_true rfl)) dX10_readClause_84 ⟨(Nat.le_of_ble_eq_true rfl), (Nat.le_of_ble_eq_true rfl)⟩) (fun r_165 L_161 f_162 H_163 locs hp_164 hw => ?_)
          obtain ⟨b_171, en_166, en_167, en_168, en_169, en_170, hWF, hq_172, kp_173⟩ := hp_164
          have hVO := hVO.kp kp_173 (by decide)
          have hTB := (gfn_kp (kp_f kp_173 (wt_8 hG Tt) (by decide) (by decide) (fun _ => by decide))).trans hTB
          have hDR := (congrArg dr_v (kp_f kp_173 Th (by decide) (by decide) (fun _ => by decide))).trans hDR
          have hVD := hVD.same (kp_f kp_173 hTv (by decide) (by decide) (fun _ => by decide)) (kp_f kp_173 (wt_9 hG hTv).1 (by decide) (by decide) (fun _ => by decide)) (kp_f kp_173 (wt_9 hG hTv).2.2.2.2.2.1 (by decide) (by decide) (fun _ => by decide))
          have hRP := hRP.trans hq_172
          have hKP := hKP.trans kp_173 (by decide) (by decide)
          have hr_113 := kp_at kp_173 hWF Th (by decide) (by decide) (by decide) hr_113
          have tq_174 := rd_eq hr_113
          have hr_127 := kp_at kp_173 hWF ty_112 (by decide) (by decide) (by decide) hr_127
          have tq_175 := va_eq hr_127
          refine lv_istore_n (lv' := [(3, .int r_165), (2, .int r_13), (0, .ref h), (1, .ref t)]) G0.1 G0.2.1 dX10_readClause_87 rfl hl (by decide) rfl (fun ls hl => ?_)
          refine lv_aload_n G0.1 G0.2.1 dX10_readClause_88 rfl (lv_at hl 2 rfl) ?_
          refine py_get (C := RX10) (T := TX10) (N := 2) (k := 1) (v := .ref r_111) G0 hw in_X10_readClause_X10 rfl hr_113 (by decide) (by decide +kernel) rfl dX10_readClause_89 ?_
          refine lv_aload_n G0.1 G0.2.1 dX10_readClause_92 rfl (lv_at hl 2 rfl) ?_
          refine py_get (C := RX10) (T := TX10) (N := 2) (k := 0) (v := .ref (G.2 h 0)) G0 hw in_X10_readClause_X10 rfl hr_113 (by decide) (by decide +kernel) rfl dX10_readClause_93 ?_
          obtain ⟨v_176, v_177, v_178, hr_181, b_179, b_180⟩ := wg_8 hWF Tt
          have bv_178 := wf_free v_178
          have tq_182 := tp_eq hr_181
          refine py_callv hw (va_runV (As := [.ref (G.2 h 0)]) (rest := []) G0 (c_X9_addFamily l E G L_161 f_162 H_163.size r_111 (G.2 h 0) sb hG hWF ty_112 t_110 (show va_f f_162 r_111 < 10 ∧ 0 ≤ it0 f_162 (G.2 h 0) ∧ it0 f_162 (G.2 h 0) ≤ 20 ∧ 0 ≤ it1 f_162 (G.2 h 0) ∧ it1 f_162 (G.2 h 0) ≤ 7 by omega) (hVD.at (hDR.symm.trans (dr_eq hr_113)))) (cwV 1 G0.2.2.2.2 g_X10_readClause_X9_addFamily_64 rfl rfl rfl (by decide +kernel) ⟨(Nat.le_of_ble_eq_true rfl), (Nat.le_of_ble_eq_true rfl)⟩) (py_preV hw (C := RX9) (T := TX9) (N := 10) rfl hr_127) rfl rfl hl.1 rfl (lv_room (Nat.le_of_ble_eq_true rfl)) dX10_readClause_96 ⟨(Nat.le_of_ble_eq_true rfl), (Nat.le_of_ble_eq_true rfl)⟩) (fun L_183 f_184 H_185 locs hp_186 hw => ?_)
          obtain ⟨en_188, hWF, hq_189, kp_190, vo_191⟩ := hp_186
          have hVO := vo_tr9 hVO hKP Th (by decide) hr_113 vo_191
          have hTB := (gfn_kp (kp_f kp_190 (wt_8 hG Tt) (by decide) (by decide) (fun _ => by decide))).trans hTB
          have hDR := (congrArg dr_v (kp_f kp_190 Th (by decide) (by decide) (fun _ => by decide))).trans hDR
          have hRP := hRP.trans hq_189
          have hKP := hKP.trans kp_190 (by decide) (by decide)
          have hr_113 := kp_at kp_190 hWF Th (by decide) (by decide) (by decide) hr_113
          have tq_192 := rd_eq hr_113
          have hr_181 := kp_at kp_190 hWF Tt (by decide) (by decide) (by decide) hr_181
          have tq_193 := tp_eq hr_181
          refine lv_iload_n G0.1 G0.2.1 dX10_readClause_99 rfl (lv_at hl 0 rfl) ?_
          exact py_iret G0 hr (ti_bool (by omega) (by omega)) hlk hw ⟨⟨by omega, by omega⟩, (by first | omega | (intro q; omega)), (by first | omega | (intro q; omega)), (by first | omega | (intro q; omega)), (by first | exact rc_k en_170 (by omega) (by omega) (by omega)), (by first | exact VD.cl_k (en_188.at ((dr_eq hr_113).symm.trans hDR)) (by omega) (by omega) en_170.2.2.2), hWF, hRP, hKP, hVO⟩ dX10_readClause_100
    · skip
      have tc_129 := ti_nle c_129
      refine lv_aload_n G0.1 G0.2.1 dX10_readClause_23 rfl (lv_at hl 2 rfl) ?_
      refine lv_dup G0.1 G0.2.1 dX10_readClause_24 rfl ?_
      obtain ⟨v_194, v_195, v_196, hr_199, b_197, b_198⟩ := wg_8 hWF Tt
      have bv_196 := wf_free v_196
      have tq_200 := tp_eq hr_199
      refine py_get (C := RX8) (T := TX8) (N := 4) (k := 2) (v := .int v_195) G0 hw in_X10_readClause_X8 rfl hr_199 (by decide) (by decide +kernel) rfl dX10_readClause_25 ?_
      refine lv_iconst (v := 1) G0.1 G0.2.1 dX10_readClause_28 (by decide) ?_
      refine lv_iadd G0.1 G0.2.1 dX10_readClause_29 ?_
      refine lv_topi (fun x_201 ex_201 => ?_)
      first | have tx_201 := ti_add ex_201 (by omega) (by omega) | skip
      refine py_put (C := RX8) (T := TX8) (N := 4) (k := 2) (v := .int x_201) (fs' := [.ref (G.2 t 0), .int v_194, .int x_201, .int v_196]) (ty0 := tyX8) G0 hw tyX8_ok nmX8 in_X10_readClause_X8 rfl hr_199 (by decide) (by decide +kernel) rfl rfl rfl rfl (Nat.le_of_ble_eq_true rfl) rfl dX10_readClause_30 (fun f_202 H_203 locs h_204 x_205 hw => ?_)
      have hTB := (gfn_kp (kp_f (KP.refl.upd hWF x_205 Tt (Or.inl (by decide)) : KP G [9] false f_10 f_202) (wt_8 hG Tt) (by decide) (by decide) (fun _ => by decide))).trans hTB
      have hDR := (congrArg dr_v (kp_f (KP.refl.upd hWF x_205 Tt (Or.inl (by decide)) : KP G [9] false f_10 f_202) Th (by decide) (by decide) (fun _ => by decide))).trans hDR
      have hVD := hVD.same (kp_f (KP.refl.upd hWF x_205 Tt (Or.inl (by decide)) : KP G [9] false f_10 f_202) hTv (by decide) (by decide) (fun _ => by decide)) (kp_f (KP.refl.upd hWF x_205 Tt (Or.inl (by decide)) : KP G [9] false f_10 f_202) (wt_9 hG hTv).1 (by decide) (by decide) (fun _ => by decide)) (kp_f (KP.refl.upd hWF x_205 Tt (Or.inl (by decide)) : KP G [9] false f_10 f_202) (wt_9 hG hTv).2.2.2.2.2.1 (by decide) (by decide) (fun _ => by decide))
      have hVO := hVO.upd hWF x_205 (Or.inr (by rw [Tt]; omega))
      have hKP := hKP.upd hWF x_205 Tt (Or.inl (by decide))
      have hRP := hRP.trans (rp_upd hG hWF x_205 hr_199.2 h_204.2 (rp_code hG Tt (by decide)) rfl)
      have hWF := wf_upd hWF h_204 x_205 (by rw [Tt]; exact ⟨v_194, x_201, v_196, rfl, ⟨by omega, by omega⟩, ⟨by omega, by omega⟩⟩)
      have tq_206 := tp_eq h_204
      have hr_113 := hr_113.ext x_205 (py_ne_kind hr_113 hr_199 (by decide))
      have tq_207 := rd_eq hr_113
      have hr_127 := hr_127.ext x_205 (py_ne_kind hr_127 hr_199 (by decide))
      have tq_208 := va_eq hr_127
      refine lv_aload_n G0.1 G0.2.1 dX10_readClause_33 rfl (lv_at hl 1 rfl) ?_
      refine lv_aload_n G0.1 G0.2.1 dX10_readClause_34 rfl (lv_at hl 2 rfl) ?_
      refine lv_iconst (v := 0) G0.1 G0.2.1 dX10_readClause_35 (by decide) ?_
      refine py_calli hw (va_runV (As := [.ref t, .int 0]) (rest := []) G0 (c_X10_readItems0 l E G L_9 f_202 H_203.size h t gb nb (rs_sk gb nb pb + 1) hG hWF Th Tt (show tp_l f_202 t = nb ∧ tp_a f_202 t = (rs_sk gb nb pb + 1) by omega) (show 0 ≤ (rs_sk gb nb pb + 1) ∧ nb ≤ 160 by omega) hTB) (cwV 2 G0.2.2.2.2 g_X10_readClause_X10_readItems_53 rfl rfl rfl (by decide +kernel) ⟨(Nat.le_of_ble_eq_true rfl), (Nat.le_of_ble_eq_true rfl)⟩) (py_preV hw (C := RX10) (T := TX10) (N := 2) rfl hr_113) rfl rfl hl.1 rfl (lv_room (Nat.le_of_ble_eq_true rfl)) dX10_readClause_36 ⟨(Nat.le_of_ble_eq_true rfl), (Nat.le_of_ble_eq_true rfl)⟩) (fun r_213 L_209 f_210 H_211 locs hp_212 hw => ?_)
      obtain ⟨b_218, en_214, en_215, en_216, en_217, hWF, hq_219, kp_220⟩ := hp_212
      have hVO := hVO.kp kp_220 (by decide)
      have hTB := (gfn_kp (kp_f kp_220 (wt_8 hG Tt) (by decide) (by decide) (fun _ => by decide))).trans hTB
      have hDR := (congrArg dr_v (kp_f kp_220 Th (by decide) (by decide) (fun _ => by decide))).trans hDR
      have hVD := hVD.same (kp_f kp_220 hTv (by decide) (by decide) (fun _ => by decide)) (kp_f kp_220 (wt_9 hG hTv).1 (by decide) (by decide) (fun _ => by decide)) (kp_f kp_220 (wt_9 hG hTv).2.2.2.2.2.1 (by decide) (by decide) (fun _ => by decide))
      have hRP := hRP.trans hq_219
      have hKP := hKP.trans kp_220 (by decide) (by decide)
      have hr_113 := kp_at kp_220 hWF Th (by decide) (by decide) (by decide) hr_113
      have tq_221 := rd_eq hr_113
      have hr_127 := kp_at kp_220 hWF ty_112 (by decide) (by decide) (by decide) hr_127
      have tq_222 := va_eq hr_127
      refine lv_istore_n (lv' := [(3, .int r_213), (2, .int r_13), (0, .ref h), (1, .ref t)]) G0.1 G0.2.1 dX10_readClause_39 rfl hl (by decide) rfl (fun ls hl => ?_)
      refine lv_aload_n G0.1 G0.2.1 dX10_readClause_40 rfl (lv_at hl 2 rfl) ?_
      refine py_get (C := RX10) (T := TX10) (N := 2) (k := 1) (v := .ref r_111) G0 hw in_X10_readClause_X10 rfl hr_113 (by decide) (by decide +kernel) rfl dX10_readClause_41 ?_
      refine lv_aload_n G0.1 G0.2.1 dX10_readClause_44 rfl (lv_at hl 2 rfl) ?_
      refine py_get (C := RX10) (T := TX10) (N := 2) (k := 0) (v := .ref (G.2 h 0)) G0 hw in_X10_readClause_X10 rfl hr_113 (by decide) (by decide +kernel) rfl dX10_readClause_45 ?_
      obtain ⟨v_223, v_224, v_225, hr_228, b_226, b_227⟩ := wg_8 hWF Tt
      have bv_225 := wf_free v_225
      have tq_229 := tp_eq hr_228
      refine py_callv hw (va_runV (As := [.ref (G.2 h 0)]) (rest := []) G0 (c_X9_addLevel l E G L_209 f_210 H_211.size r_111 (G.2 h 0) sb hG hWF ty_112 t_110 (show va_l f_210 r_111 < 8 by omega) (hVD.at (hDR.symm.trans (dr_eq hr_113)))) (cwV 1 G0.2.2.2.2 g_X10_readClause_X9_addLevel_57 rfl rfl rfl (by decide +kernel) ⟨(Nat.le_of_ble_eq_true rfl), (Nat.le_of_ble_eq_true rfl)⟩) (py_preV hw (C := RX9) (T := TX9) (N := 10) rfl hr_127) rfl rfl hl.1 rfl (lv_room (Nat.le_of_ble_eq_true rfl)) dX10_readClause_48 ⟨(Nat.le_of_ble_eq_true rfl), (Nat.le_of_ble_eq_true rfl)⟩) (fun L_230 f_231 H_232 locs hp_233 hw => ?_)
      obtain ⟨en_235, hWF, hq_236, kp_237, vo_238⟩ := hp_233
      have hVO := vo_tr9 hVO hKP Th (by decide) hr_113 vo_238
      have hTB := (gfn_kp (kp_f kp_237 (wt_8 hG Tt) (by decide) (by decide) (fun _ => by decide))).trans hTB
      have hDR := (congrArg dr_v (kp_f kp_237 Th (by decide) (by decide) (fun _ => by decide))).trans hDR
      have hRP := hRP.trans hq_236
      have hKP := hKP.trans kp_237 (by decide) (by decide)
      have hr_113 := kp_at kp_237 hWF Th (by decide) (by decide) (by decide) hr_113
      have tq_239 := rd_eq hr_113
      have hr_228 := kp_at kp_237 hWF Tt (by decide) (by decide) (by decide) hr_228
      have tq_240 := tp_eq hr_228
      refine lv_iload_n G0.1 G0.2.1 dX10_readClause_51 rfl (lv_at hl 0 rfl) ?_
      exact py_iret G0 hr (ti_bool (by omega) (by omega)) hlk hw ⟨⟨by omega, by omega⟩, (by first | omega | (intro q; omega)), (by first | omega | (intro q; omega)), (by first | omega | (intro q; omega)), (by first | exact rc_l en_217 (by omega) (by omega) (by omega)), (by first | exact VD.cl_l (en_235.at ((dr_eq hr_113).symm.trans hDR)) (by omega) (by omega) en_217.2.2.1), hWF, hRP, hKP, hVO⟩ dX10_readClause_52
