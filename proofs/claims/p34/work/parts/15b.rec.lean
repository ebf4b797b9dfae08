set_option maxHeartbeats 4000000 in
set_option maxRecDepth 100000 in
theorem k_nested (l : Launch) (E : py_E) (G : wf_G) (hG : GT G) (wb : Int) (hwb : 0 ≤ wb) (fr lo : Nat) (hfr : 10 ≤ fr) (hlo : 300 ≤ lo) (f_unit l_unit : Nat) (x_unit : f_unit ≤ fr) (z_unit : l_unit ≤ lo) (ih_unit : P_unit l E G (wb + 1) f_unit l_unit) (f_chain0 l_chain0 : Nat) (x_chain0 : f_chain0 ≤ fr) (z_chain0 : l_chain0 ≤ lo) (ih_chain0 : P_chain0 l E G (wb + 1) f_chain0 l_chain0) (f_chain2 l_chain2 : Nat) (x_chain2 : f_chain2 ≤ fr) (z_chain2 : l_chain2 ≤ lo) (ih_chain2 : P_chain2 l E G (wb + 1) f_chain2 l_chain2) : P_nested l E G wb (fr + 1) (lo + 60) := by
  intro L f sz h t a i gb nb pb eb hWF Th Tt hp0 hp1 hp2 hp3 hp4 hq0
  refine Met.ofW (cc := cX4_readNested) (maxL := 5) (ret := (some .boolean)) (by decide) rfl ?_
  intro p e s m args below meth c s₁ B hml hv
  obtain ⟨rfl, rfl, hw⟩ := py_start hv
  have G0 : CallFix p m c cX4_readNested 5 s _ w_X4_readNested RX4 := ⟨B.exec, B.bytes, hml, findClass_of_methodNamed B.named, atoms_spec (ws := w_X4_readNested) B.pre⟩
  have hr := B.returns
  have hlk := B.notSynchronized
  have kcm1 : (-1 : Int32).toInt = -1 := rfl
  have kc0 : (0 : Int32).toInt = 0 := rfl
  have kc1 : (1 : Int32).toInt = 1 := rfl
  have kc2 : (2 : Int32).toInt = 2 := rfl
  have kc6 : (6 : Int32).toInt = 6 := rfl
  have kc33 : (33 : Int32).toInt = 33 := rfl
  have kc40 : (40 : Int32).toInt = 40 := rfl
  have kc41 : (41 : Int32).toInt = 41 := rfl
  have kc93 : (93 : Int32).toInt = 93 := rfl
  have hl := lv_entry ([.ref h, .ref t, .int a, .int i]) (n := 5) (Nat.le_of_ble_eq_true rfl)
  rw [lg_entry_eq]
  generalize (lg_sl ([.ref h, .ref t, .int a, .int i]) ++ List.replicate (5 - (lg_sl ([.ref h, .ref t, .int a, .int i])).length) Slot.unset).toArray = ls at hl ⊢
  have hl : lv_has ls 5 [(0, .ref h), (1, .ref t), (2, .int a), (3, .int i)] := hl
  have hRP : RP E G f f := RP.refl
  have hKP : KP G [9, 4, 20] false f f := KP.refl
  have hTB := hq0
  refine lv_iload_n G0.1 G0.2.1 dX4_readNested_0 rfl (lv_at hl 3 rfl) ?_
  refine lv_bipush (v := 6) G0.1 G0.2.1 dX4_readNested_1 (by decide) ?_
  refine lv_icmp_lt (tgt := 8) G0.1 G0.2.1 dX4_readNested_3 (by decide) (fun c_1 => ?_) (fun c_1 => ?_)
  · skip
    have tc_1 := ti_lt c_1
    refine lv_aload_n G0.1 G0.2.1 dX4_readNested_8 rfl (lv_at hl 1 rfl) ?_
    refine lv_dup G0.1 G0.2.1 dX4_readNested_9 rfl ?_
    have t_2 := wt_8 hG Tt
    obtain ⟨v_3, v_4, v_5, hr_8, b_6, b_7⟩ := wg_8 hWF Tt
    have bv_5 := wf_free v_5
    have tq_9 := tp_eq hr_8
    refine py_get (C := RX8) (T := TX8) (N := 4) (k := 2) (v := .int v_4) G0 hw in_X4_readNested_X8 rfl hr_8 (by decide) (by decide +kernel) rfl dX4_readNested_10 ?_
    refine lv_iconst (v := 1) G0.1 G0.2.1 dX4_readNested_13 (by decide) ?_
    refine lv_iadd G0.1 G0.2.1 dX4_readNested_14 ?_
    refine lv_topi (fun x_10 ex_10 => ?_)
    first | have tx_10 := ti_add ex_10 (by omega) (by omega) | skip
    refine py_put (C := RX8) (T := TX8) (N := 4) (k := 2) (v := .int x_10) (fs' := [.ref (G.2 t 0), .int v_3, .int x_10, .int v_5]) (ty0 := tyX8) G0 hw tyX8_ok nmX8 in_X4_readNested_X8 rfl hr_8 (by decide) (by decide +kernel) rfl rfl rfl rfl (Nat.le_of_ble_eq_true rfl) rfl dX4_readNested_15 (fun f_11 H_12 locs h_13 x_14 hw => ?_)
    have hTB := (gfn_kp (kp_f (KP.refl.upd hWF x_14 Tt (Or.inl (by decide)) : KP G [9] false f f_11) (wt_8 hG Tt) (by decide) (by decide) (fun _ => by decide))).trans hTB
    have hKP := hKP.upd hWF x_14 Tt (Or.inl (by decide))
    have hRP := hRP.trans (rp_upd hG hWF x_14 hr_8.2 h_13.2 (rp_code hG Tt (by decide)) rfl)
    have hWF := wf_upd hWF h_13 x_14 (by rw [Tt]; exact ⟨v_3, x_10, v_5, rfl, ⟨by omega, by omega⟩, ⟨by omega, by omega⟩⟩)
    have tq_15 := tp_eq h_13
    refine lv_iload_n G0.1 G0.2.1 dX4_readNested_18 rfl (lv_at hl 2 rfl) ?_
    refine lv_bipush (v := 33) G0.1 G0.2.1 dX4_readNested_19 (by decide) ?_
    refine lv_icmp_ne (tgt := 48) G0.1 G0.2.1 dX4_readNested_21 (by decide) (fun c_16 => ?_) (fun c_16 => ?_)
    · skip
      have tc_16 := ti_ne c_16
      refine lv_iload_n G0.1 G0.2.1 dX4_readNested_48 rfl (lv_at hl 2 rfl) ?_
      refine lv_bipush (v := 40) G0.1 G0.2.1 dX4_readNested_49 (by decide) ?_
      refine lv_icmp_ne (tgt := 82) G0.1 G0.2.1 dX4_readNested_51 (by decide) (fun c_17 => ?_) (fun c_17 => ?_)
      · skip
        have tc_17 := ti_ne c_17
        refine lv_aload_n G0.1 G0.2.1 dX4_readNested_82 rfl (lv_at hl 0 rfl) ?_
        refine lv_aload_n G0.1 G0.2.1 dX4_readNested_83 rfl (lv_at hl 1 rfl) ?_
        refine lv_iconst (v := 2) G0.1 G0.2.1 dX4_readNested_84 (by decide) ?_
        refine lv_iload_n G0.1 G0.2.1 dX4_readNested_85 rfl (lv_at hl 3 rfl) ?_
        refine lv_iconst (v := 1) G0.1 G0.2.1 dX4_readNested_86 (by decide) ?_
        refine lv_iadd G0.1 G0.2.1 dX4_readNested_87 ?_
        refine lv_topi (fun x_18 ex_18 => ?_)
        first | have tx_18 := ti_add ex_18 (by omega) (by omega) | skip
        refine lv_iconst (v := 0) G0.1 G0.2.1 dX4_readNested_88 (by decide) ?_
        obtain ⟨r_19, hr_21, ty_20⟩ := wg_4 hWF Th
        refine py_calli hw (va_runV (As := [.ref t, .int 2, .int x_18, .int 0]) (rest := []) G0 (ih_chain2 L f_11 H_12.size h t x_18 0 gb nb (pb + 1) (eb - 1) hWF Th Tt ⟨by omega, by omega⟩ (show (wb + 1) ≤ x_18.toInt ∧ x_18.toInt ≤ 6 by omega) (show x_18.toInt = 6 - (((eb - 1) : Nat) : Int) by omega) (show tp_l f_11 t = nb ∧ tp_a f_11 t = (pb + 1) by omega) (show 0 ≤ (pb + 1) ∧ nb ≤ 160 by omega) hTB) (cwV 4 G0.2.2.2.2 g_X4_readNested_X4_readChain_39 rfl rfl rfl (by decide +kernel) ⟨(show f_chain2 + 1 ≤ fr + 1 by omega), (show 8 + (9 + 11) + l_chain2 ≤ lo + 60 by omega)⟩) (py_preV hw (C := RX4) (T := TX4) (N := 1) rfl hr_21) rfl rfl hl.1 rfl (lv_room (Nat.le_of_ble_eq_true rfl)) dX4_readNested_89 ⟨(Nat.le_of_ble_eq_true rfl), (Nat.le_of_ble_eq_true rfl)⟩) (fun r_26 L_22 f_23 H_24 locs hp_25 hw => ?_)
        obtain ⟨b_31, en_27, en_28, en_29, en_30, hWF, hq_32, kp_33⟩ := hp_25
        have hTB := (gfn_kp (kp_f kp_33 (wt_8 hG Tt) (by decide) (by decide) (fun _ => by decide))).trans hTB
        have hRP := hRP.trans hq_32
        have hKP := hKP.trans kp_33 (by decide) (by decide)
        have hr_21 := kp_at kp_33 hWF Th (by decide) (by decide) (by decide) hr_21
        refine lv_if_eq (tgt := 108) G0.1 G0.2.1 dX4_readNested_92 (by decide) (fun c_34 => ?_) (fun c_34 => ?_)
        · skip
          have tc_34 := ti_eq c_34
          clear en_29
          refine lv_iconst (v := 0) G0.1 G0.2.1 dX4_readNested_108 (by decide) ?_
          obtain ⟨v_35, v_36, v_37, hr_40, b_38, b_39⟩ := wg_8 hWF Tt
          have bv_37 := wf_free v_37
          have tq_41 := tp_eq hr_40
          exact py_iret G0 hr rfl hlk hw ⟨⟨by omega, by omega⟩, (by first | omega | (intro q; omega)), (by first | omega | (intro q; omega)), (by first | omega | (intro q; omega)), (by first | exact rs_eq (rs_ns_0 (by omega)) (by omega) (by omega) | exact rs_eqw (rs_ns_nb (by omega) (by omega)) (by omega) (by omega) | exact rs_eqw ((rs_ns_pb (by omega) (by omega)).trans (rs_cl_0 (by omega))) (by omega) (by omega) | exact rs_eqw ((rs_ns_b (by omega) (by omega) (by omega)).trans (rs_cl_0 (by omega))) (by omega) (by omega) | exact rs_eq ((rs_ns_pb (by omega) (by omega)).trans (rs_cl_1 (by omega) (by omega))) (by omega) (by omega) | exact rs_eq ((rs_ns_pb (by omega) (by omega)).trans (rs_cl_e (by omega) (by omega))) (by omega) (by omega) | exact rs_eq ((rs_ns_b (by omega) (by omega) (by omega)).trans (rs_cl_1 (by omega) (by omega))) (by omega) (by omega) | exact rs_eq ((rs_ns_b (by omega) (by omega) (by omega)).trans (rs_cl_e (by omega) (by omega))) (by omega) (by omega)), hWF, hRP, hKP⟩ dX4_readNested_109
        · skip
          have tc_34 := ti_ne c_34
          replace en_29 := en_29 (by omega)
          refine lv_aload_n G0.1 G0.2.1 dX4_readNested_95 rfl (lv_at hl 1 rfl) ?_
          refine lv_bipush (v := 93) G0.1 G0.2.1 dX4_readNested_96 (by decide) ?_
          obtain ⟨v_42, v_43, v_44, hr_47, b_45, b_46⟩ := wg_8 hWF Tt
          have bv_44 := wf_free v_44
          have tq_48 := tp_eq hr_47
          refine py_calli hw (va_runV (As := [.int 93]) (rest := []) G0 (c_X8_take l E G L_22 f_23 H_24.size t 93 gb nb (rs_sm gb nb (eb - 1) (pb + 1)).2 hG hWF Tt ⟨by omega, by omega⟩ (show tp_l f_23 t = nb ∧ tp_a f_23 t = (rs_sm gb nb (eb - 1) (pb + 1)).2 by omega) (show 0 ≤ (rs_sm gb nb (eb - 1) (pb + 1)).2 ∧ nb ≤ 160 by omega) hTB) (cwV 1 G0.2.2.2.2 g_X4_readNested_X8_take_31 rfl rfl rfl (by decide +kernel) ⟨(show 1 + 1 ≤ fr + 1 by omega), (show 8 + (2 + 11) + 20 ≤ lo + 60 by omega)⟩) (py_preV hw (C := RX8) (T := TX8) (N := 4) rfl hr_47) rfl rfl hl.1 rfl (lv_room (Nat.le_of_ble_eq_true rfl)) dX4_readNested_98 ⟨(Nat.le_of_ble_eq_true rfl), (Nat.le_of_ble_eq_true rfl)⟩) (fun r_53 L_49 f_50 H_51 locs hp_52 hw => ?_)
          obtain ⟨b_58, en_54, en_55, en_56, en_57, hWF, hq_59, kp_60⟩ := hp_52
          have hTB := (gfn_kp (kp_f kp_60 (wt_8 hG Tt) (by decide) (by decide) (fun _ => by decide))).trans hTB
          have hRP := hRP.trans hq_59
          have hKP := hKP.trans kp_60 (by decide) (by decide)
          have hr_21 := kp_at kp_60 hWF Th (by decide) (by decide) (by decide) hr_21
          refine lv_if_eq (tgt := 108) G0.1 G0.2.1 dX4_readNested_101 (by decide) (fun c_61 => ?_) (fun c_61 => ?_)
          · skip
            have tc_61 := ti_eq c_61
            clear en_56
            replace en_57 := en_57 (by omega)
            refine lv_iconst (v := 0) G0.1 G0.2.1 dX4_readNested_108 (by decide) ?_
            obtain ⟨v_62, v_63, v_64, hr_67, b_65, b_66⟩ := wg_8 hWF Tt
            have bv_64 := wf_free v_64
            have tq_68 := tp_eq hr_67
            exact py_iret G0 hr rfl hlk hw ⟨⟨by omega, by omega⟩, (by first | omega | (intro q; omega)), (by first | omega | (intro q; omega)), (by first | omega | (intro q; omega)), (by first | exact rs_eq (rs_ns_0 (by omega)) (by omega) (by omega) | exact rs_eqw (rs_ns_nb (by omega) (by omega)) (by omega) (by omega) | exact rs_eqw ((rs_ns_pb (by omega) (by omega)).trans (rs_cl_0 (by omega))) (by omega) (by omega) | exact rs_eqw ((rs_ns_b (by omega) (by omega) (by omega)).trans (rs_cl_0 (by omega))) (by omega) (by omega) | exact rs_eq ((rs_ns_pb (by omega) (by omega)).trans (rs_cl_1 (by omega) (by omega))) (by omega) (by omega) | exact rs_eq ((rs_ns_pb (by omega) (by omega)).trans (rs_cl_e (by omega) (by omega))) (by omega) (by omega) | exact rs_eq ((rs_ns_b (by omega) (by omega) (by omega)).trans (rs_cl_1 (by omega) (by omega))) (by omega) (by omega) | exact rs_eq ((rs_ns_b (by omega) (by omega) (by omega)).trans (rs_cl_e (by omega) (by omega))) (by omega) (by omega)), hWF, hRP, hKP⟩ dX4_readNested_109
          · skip
            have tc_61 := ti_ne c_61
            replace en_56 := en_56 (by omega)
            clear en_57
            refine lv_iconst (v := 1) G0.1 G0.2.1 dX4_readNested_104 (by decide) ?_
            refine lv_goto (tgt := 109) G0.1 G0.2.1 dX4_readNested_105 (by decide) ?_
            obtain ⟨v_69, v_70, v_71, hr_74, b_72, b_73⟩ := wg_8 hWF Tt
            have bv_71 := wf_free v_71
            have tq_75 := tp_eq hr_74
            exact py_iret G0 hr rfl hlk hw ⟨⟨by omega, by omega⟩, (by first | omega | (intro q; omega)), (by first | omega | (intro q; omega)), (by first | omega | (intro q; omega)), (by first | exact rs_eq (rs_ns_0 (by omega)) (by omega) (by omega) | exact rs_eqw (rs_ns_nb (by omega) (by omega)) (by omega) (by omega) | exact rs_eqw ((rs_ns_pb (by omega) (by omega)).trans (rs_cl_0 (by omega))) (by omega) (by omega) | exact rs_eqw ((rs_ns_b (by omega) (by omega) (by omega)).trans (rs_cl_0 (by omega))) (by omega) (by omega) | exact rs_eq ((rs_ns_pb (by omega) (by omega)).trans (rs_cl_1 (by omega) (by omega))) (by omega) (by omega) | exact rs_eq ((rs_ns_pb (by omega) (by omega)).trans (rs_cl_e (by omega) (by omega))) (by omega) (by omega) | exact rs_eq ((rs_ns_b (by omega) (by omega) (by omega)).trans (rs_cl_1 (by omega) (by omega))) (by omega) (by omega) | exact rs_eq ((rs_ns_b (by omega) (by omega) (by omega)).trans (rs_cl_e (by omega) (by omega))) (by omega) (by omega)), hWF, hRP, hKP⟩ dX4_readNested_109
      · skip
        have tc_17 := ti_eq c_17
        refine lv_aload_n G0.1 G0.2.1 dX4_readNested_54 rfl (lv_at hl 0 rfl) ?_
        refine lv_aload_n G0.1 G0.2.1 dX4_readNested_55 rfl (lv_at hl 1 rfl) ?_
        refine lv_iconst (v := 0) G0.1 G0.2.1 dX4_readNested_56 (by decide) ?_
        refine lv_iload_n G0.1 G0.2.1 dX4_readNested_57 rfl (lv_at hl 3 rfl) ?_
        refine lv_iconst (v := 1) G0.1 G0.2.1 dX4_readNested_58 (by decide) ?_
        refine lv_iadd G0.1 G0.2.1 dX4_readNested_59 ?_
        refine lv_topi (fun x_76 ex_76 => ?_)
        first | have tx_76 := ti_add ex_76 (by omega) (by omega) | skip
        refine lv_iconst (v := 0) G0.1 G0.2.1 dX4_readNested_60 (by decide) ?_
        obtain ⟨r_77, hr_79, ty_78⟩ := wg_4 hWF Th
        refine py_calli hw (va_runV (As := [.ref t, .int 0, .int x_76, .int 0]) (rest := []) G0 (ih_chain0 L f_11 H_12.size h t x_76 0 gb nb (pb + 1) (eb - 1) 0 hWF Th Tt ⟨by omega, by omega⟩ (show (wb + 1) ≤ x_76.toInt ∧ x_76.toInt ≤ 6 by omega) (show (0 : Int32).toInt = 0 by omega) (show x_76.toInt = 6 - (((eb - 1) : Nat) : Int) by omega) (show tp_l f_11 t = nb ∧ tp_a f_11 t = (pb + 1) by omega) (show 0 ≤ (pb + 1) ∧ nb ≤ 160 by omega) hTB) (cwV 4 G0.2.2.2.2 g_X4_readNested_X4_readChain_39 rfl rfl rfl (by decide +kernel) ⟨(show f_chain0 + 1 ≤ fr + 1 by omega), (show 8 + (9 + 11) + l_chain0 ≤ lo + 60 by omega)⟩) (py_preV hw (C := RX4) (T := TX4) (N := 1) rfl hr_79) rfl rfl hl.1 rfl (lv_room (Nat.le_of_ble_eq_true rfl)) dX4_readNested_61 ⟨(Nat.le_of_ble_eq_true rfl), (Nat.le_of_ble_eq_true rfl)⟩) (fun r_84 L_80 f_81 H_82 locs hp_83 hw => ?_)
        obtain ⟨b_89, en_85, en_86, en_87, en_88, hWF, hq_90, kp_91⟩ := hp_83
        have hTB := (gfn_kp (kp_f kp_91 (wt_8 hG Tt) (by decide) (by decide) (fun _ => by decide))).trans hTB
        have hRP := hRP.trans hq_90
        have hKP := hKP.trans kp_91 (by decide) (by decide)
        have hr_79 := kp_at kp_91 hWF Th (by decide) (by decide) (by decide) hr_79
        refine lv_if_eq (tgt := 80) G0.1 G0.2.1 dX4_readNested_64 (by decide) (fun c_92 => ?_) (fun c_92 => ?_)
        · skip
          have tc_92 := ti_eq c_92
          clear en_87
          refine lv_iconst (v := 0) G0.1 G0.2.1 dX4_readNested_80 (by decide) ?_
          obtain ⟨v_93, v_94, v_95, hr_98, b_96, b_97⟩ := wg_8 hWF Tt
          have bv_95 := wf_free v_95
          have tq_99 := tp_eq hr_98
          exact py_iret G0 hr rfl hlk hw ⟨⟨by omega, by omega⟩, (by first | omega | (intro q; omega)), (by first | omega | (intro q; omega)), (by first | omega | (intro q; omega)), (by first | exact rs_eq (rs_ns_0 (by omega)) (by omega) (by omega) | exact rs_eqw (rs_ns_nb (by omega) (by omega)) (by omega) (by omega) | exact rs_eqw ((rs_ns_pb (by omega) (by omega)).trans (rs_cl_0 (by omega))) (by omega) (by omega) | exact rs_eqw ((rs_ns_b (by omega) (by omega) (by omega)).trans (rs_cl_0 (by omega))) (by omega) (by omega) | exact rs_eq ((rs_ns_pb (by omega) (by omega)).trans (rs_cl_1 (by omega) (by omega))) (by omega) (by omega) | exact rs_eq ((rs_ns_pb (by omega) (by omega)).trans (rs_cl_e (by omega) (by omega))) (by omega) (by omega) | exact rs_eq ((rs_ns_b (by omega) (by omega) (by omega)).trans (rs_cl_1 (by omega) (by omega))) (by omega) (by omega) | exact rs_eq ((rs_ns_b (by omega) (by omega) (by omega)).trans (rs_cl_e (by omega) (by omega))) (by omega) (by omega)), hWF, hRP, hKP⟩ dX4_readNested_81
        · skip
          have tc_92 := ti_ne c_92
          replace en_87 := en_87 (by omega)
          refine lv_aload_n G0.1 G0.2.1 dX4_readNested_67 rfl (lv_at hl 1 rfl) ?_
          refine lv_bipush (v := 41) G0.1 G0.2.1 dX4_readNested_68 (by decide) ?_
          obtain ⟨v_100, v_101, v_102, hr_105, b_103, b_104⟩ := wg_8 hWF Tt
          have bv_102 := wf_free v_102
          have tq_106 := tp_eq hr_105
          refine py_calli hw (va_runV (As := [.int 41]) (rest := []) G0 (c_X8_take l E G L_80 f_81 H_82.size t 41 gb nb (rs_cdb gb nb (eb - 1) 0 (pb + 1)).2 hG hWF Tt ⟨by omega, by omega⟩ (show tp_l f_81 t = nb ∧ tp_a f_81 t = (rs_cdb gb nb (eb - 1) 0 (pb + 1)).2 by omega) (show 0 ≤ (rs_cdb gb nb (eb - 1) 0 (pb + 1)).2 ∧ nb ≤ 160 by omega) hTB) (cwV 1 G0.2.2.2.2 g_X4_readNested_X8_take_31 rfl rfl rfl (by decide +kernel) ⟨(show 1 + 1 ≤ fr + 1 by omega), (show 8 + (2 + 11) + 20 ≤ lo + 60 by omega)⟩) (py_preV hw (C := RX8) (T := TX8) (N := 4) rfl hr_105) rfl rfl hl.1 rfl (lv_room (Nat.le_of_ble_eq_true rfl)) dX4_readNested_70 ⟨(Nat.le_of_ble_eq_true rfl), (Nat.le_of_ble_eq_true rfl)⟩) (fun r_111 L_107 f_108 H_109 locs hp_110 hw => ?_)
          obtain ⟨b_116, en_112, en_113, en_114, en_115, hWF, hq_117, kp_118⟩ := hp_110
          have hTB := (gfn_kp (kp_f kp_118 (wt_8 hG Tt) (by decide) (by decide) (fun _ => by decide))).trans hTB
          have hRP := hRP.trans hq_117
          have hKP := hKP.trans kp_118 (by decide) (by decide)
          have hr_79 := kp_at kp_118 hWF Th (by decide) (by decide) (by decide) hr_79
          refine lv_if_eq (tgt := 80) G0.1 G0.2.1 dX4_readNested_73 (by decide) (fun c_119 => ?_) (fun c_119 => ?_)
          · skip
            have tc_119 := ti_eq c_119
            clear en_114
            replace en_115 := en_115 (by omega)
            refine lv_iconst (v := 0) G0.1 G0.2.1 dX4_readNested_80 (by decide) ?_
            obtain ⟨v_120, v_121, v_122, hr_125, b_123, b_124⟩ := wg_8 hWF Tt
            have bv_122 := wf_free v_122
            have tq_126 := tp_eq hr_125
            exact py_iret G0 hr rfl hlk hw ⟨⟨by omega, by omega⟩, (by first | omega | (intro q; omega)), (by first | omega | (intro q; omega)), (by first | omega | (intro q; omega)), (by first | exact rs_eq (rs_ns_0 (by omega)) (by omega) (by omega) | exact rs_eqw (rs_ns_nb (by omega) (by omega)) (by omega) (by omega) | exact rs_eqw ((rs_ns_pb (by omega) (by omega)).trans (rs_cl_0 (by omega))) (by omega) (by omega) | exact rs_eqw ((rs_ns_b (by omega) (by omega) (by omega)).trans (rs_cl_0 (by omega))) (by omega) (by omega) | exact rs_eq ((rs_ns_pb (by omega) (by omega)).trans (rs_cl_1 (by omega) (by omega))) (by omega) (by omega) | exact rs_eq ((rs_ns_pb (by omega) (by omega)).trans (rs_cl_e (by omega) (by omega))) (by omega) (by omega) | exact rs_eq ((rs_ns_b (by omega) (by omega) (by omega)).trans (rs_cl_1 (by omega) (by omega))) (by omega) (by omega) | exact rs_eq ((rs_ns_b (by omega) (by omega) (by omega)).trans (rs_cl_e (by omega) (by omega))) (by omega) (by omega)), hWF, hRP, hKP⟩ dX4_readNested_81
          · skip
            have tc_119 := ti_ne c_119
            replace en_114 := en_114 (by omega)
            clear en_115
            refine lv_iconst (v := 1) G0.1 G0.2.1 dX4_readNested_76 (by decide) ?_
            refine lv_goto (tgt := 81) G0.1 G0.2.1 dX4_readNested_77 (by decide) ?_
            obtain ⟨v_127, v_128, v_129, hr_132, b_130, b_131⟩ := wg_8 hWF Tt
            have bv_129 := wf_free v_129
            have tq_133 := tp_eq hr_132
            exact py_iret G0 hr rfl hlk hw ⟨⟨by omega, by omega⟩, (by first | omega | (intro q; omega)), (by first | omega | (intro q; omega)), (by first | omega | (intro q; omega)), (by first | exact rs_eq (rs_ns_0 (by omega)) (by omega) (by omega) | exact rs_eqw (rs_ns_nb (by omega) (by omega)) (by omega) (by omega) | exact rs_eqw ((rs_ns_pb (by omega) (by omega)).trans (rs_cl_0 (by omega))) (by omega) (by omega) | exact rs_eqw ((rs_ns_b (by omega) (by omega) (by omega)).trans (rs_cl_0 (by omega))) (by omega) (by omega) | exact rs_eq ((rs_ns_pb (by omega) (by omega)).trans (rs_cl_1 (by omega) (by omega))) (by omega) (by omega) | exact rs_eq ((rs_ns_pb (by omega) (by omega)).trans (rs_cl_e (by omega) (by omega))) (by omega) (by omega) | exact rs_eq ((rs_ns_b (by omega) (by omega) (by omega)).trans (rs_cl_1 (by omega) (by omega))) (by omega) (by omega) | exact rs_eq ((rs_ns_b (by omega) (by omega) (by omega)).trans (rs_cl_e (by omega) (by omega))) (by omega) (by omega)), hWF, hRP, hKP⟩ dX4_readNested_81
    · skip
      have tc_16 := ti_eq c_16
      refine lv_aload_n G0.1 G0.2.1 dX4_readNested_24 rfl (lv_at hl 0 rfl) ?_
      refine lv_aload_n G0.1 G0.2.1 dX4_readNested_25 rfl (lv_at hl 1 rfl) ?_
      refine lv_iload_n G0.1 G0.2.1 dX4_readNested_26 rfl (lv_at hl 3 rfl) ?_
      refine lv_iconst (v := 1) G0.1 G0.2.1 dX4_readNested_27 (by decide) ?_
      refine lv_iadd G0.1 G0.2.1 dX4_readNested_28 ?_
      refine lv_topi (fun x_134 ex_134 => ?_)
      first | have tx_134 := ti_add ex_134 (by omega) (by omega) | skip
      refine lv_iconst (v := 0) G0.1 G0.2.1 dX4_readNested_29 (by decide) ?_
      obtain ⟨r_135, hr_137, ty_136⟩ := wg_4 hWF Th
      refine py_calli hw (va_runV (As := [.ref t, .int x_134, .int 0]) (rest := []) G0 (ih_unit L f_11 H_12.size h t x_134 0 gb nb (pb + 1) (eb - 1) 0 hWF Th Tt ⟨by omega, by omega⟩ (show (wb + 1) ≤ x_134.toInt ∧ x_134.toInt ≤ 6 by omega) (show (0 : Int32).toInt = 0 by omega) (show x_134.toInt = 6 - (((eb - 1) : Nat) : Int) by omega) (show tp_l f_11 t = nb ∧ tp_a f_11 t = (pb + 1) by omega) (show 0 ≤ (pb + 1) ∧ nb ≤ 160 by omega) hTB) (cwV 3 G0.2.2.2.2 g_X4_readNested_X4_readUnit_54 rfl rfl rfl (by decide +kernel) ⟨(show f_unit + 1 ≤ fr + 1 by omega), (show 8 + (6 + 11) + l_unit ≤ lo + 60 by omega)⟩) (py_preV hw (C := RX4) (T := TX4) (N := 1) rfl hr_137) rfl rfl hl.1 rfl (lv_room (Nat.le_of_ble_eq_true rfl)) dX4_readNested_30 ⟨(Nat.le_of_ble_eq_true rfl), (Nat.le_of_ble_eq_true rfl)⟩) (fun r_142 L_138 f_139 H_140 locs hp_141 hw => ?_)
      obtain ⟨b_147, en_143, en_144, en_145, en_146, hWF, hq_148, kp_149⟩ := hp_141
      have hTB := (gfn_kp (kp_f kp_149 (wt_8 hG Tt) (by decide) (by decide) (fun _ => by decide))).trans hTB
      have hRP := hRP.trans hq_148
      have hKP := hKP.trans kp_149 (by decide) (by decide)
      have hr_137 := kp_at kp_149 hWF Th (by decide) (by decide) (by decide) hr_137
      refine lv_istore (lv' := [(4, .int r_142), (0, .ref h), (1, .ref t), (2, .int a), (3, .int i)]) G0.1 G0.2.1 dX4_readNested_33 hl (by decide) rfl (fun ls hl => ?_)
      refine lv_aload_n G0.1 G0.2.1 dX4_readNested_35 rfl (lv_at hl 1 rfl) ?_
      refine py_get (C := RX4) (T := TX4) (N := 1) (k := 0) (v := .ref r_135) G0 hw in_X4_readNested_X4 rfl hr_137 (by decide) (by decide +kernel) rfl dX4_readNested_36 ?_
      refine lv_bipush (v := 33) G0.1 G0.2.1 dX4_readNested_39 (by decide) ?_
      refine lv_iconst (v := 0) G0.1 G0.2.1 dX4_readNested_41 (by decide) ?_
      obtain ⟨t_150, t_151⟩ := wt_3 hG ty_136
      obtain ⟨v_152, hr_154, b_153⟩ := wg_3 hWF ty_136
      obtain ⟨v_155, v_156, v_157, hr_160, b_158, b_159⟩ := wg_8 hWF Tt
      have bv_157 := wf_free v_157
      have tq_161 := tp_eq hr_160
      refine py_callv hw (va_runV (As := [.int 33, .int 0]) (rest := []) G0 (c_X3_add l E G L_138 f_139 H_140.size r_135 33 0 hG hWF ty_136) (cwV 2 G0.2.2.2.2 g_X4_readNested_X3_add_46 rfl rfl rfl (by decide +kernel) ⟨(show 0 + 1 ≤ fr + 1 by omega), (show 8 + (3 + 11) + 0 ≤ lo + 60 by omega)⟩) (py_preV hw (C := RX3) (T := TX3) (N := 3) rfl hr_154) rfl rfl hl.1 rfl (lv_room (Nat.le_of_ble_eq_true rfl)) dX4_readNested_42 ⟨(Nat.le_of_ble_eq_true rfl), (Nat.le_of_ble_eq_true rfl)⟩) (fun L_162 f_163 H_164 locs hp_165 hw => ?_)
      obtain ⟨hWF, hq_167, kp_168⟩ := hp_165
      have hTB := (gfn_kp (kp_f kp_168 (wt_8 hG Tt) (by decide) (by decide) (fun _ => by decide))).trans hTB
      have hRP := hRP.trans hq_167
      have hKP := hKP.trans kp_168 (by decide) (by decide)
      have hr_137 := kp_at kp_168 hWF Th (by decide) (by decide) (by decide) hr_137
      have hr_160 := kp_at kp_168 hWF Tt (by decide) (by decide) (by decide) hr_160
      have tq_169 := tp_eq hr_160
      refine lv_iload G0.1 G0.2.1 dX4_readNested_45 (lv_at hl 0 rfl) ?_
      exact py_iret G0 hr (ti_bool (by omega) (by omega)) hlk hw ⟨⟨by omega, by omega⟩, (by first | omega | (intro q; omega)), (by first | omega | (intro q; omega)), (by first | omega | (intro q; omega)), (by first | exact rs_eq (rs_ns_0 (by omega)) (by omega) (by omega) | exact rs_eqw (rs_ns_nb (by omega) (by omega)) (by omega) (by omega) | exact rs_eqw ((rs_ns_pb (by omega) (by omega)).trans (rs_cl_0 (by omega))) (by omega) (by omega) | exact rs_eqw ((rs_ns_b (by omega) (by omega) (by omega)).trans (rs_cl_0 (by omega))) (by omega) (by omega) | exact rs_eq ((rs_ns_pb (by omega) (by omega)).trans (rs_cl_1 (by omega) (by omega))) (by omega) (by omega) | exact rs_eq ((rs_ns_pb (by omega) (by omega)).trans (rs_cl_e (by omega) (by omega))) (by omega) (by omega) | exact rs_eq ((rs_ns_b (by omega) (by omega) (by omega)).trans (rs_cl_1 (by omega) (by omega))) (by omega) (by omega) | exact rs_eq ((rs_ns_b (by omega) (by omega) (by omega)).trans (rs_cl_e (by omega) (by omega))) (by omega) (by omega)), hWF, hRP, hKP⟩ dX4_readNested_47
  · skip
    have tc_1 := ti_nlt c_1
    refine lv_iconst (v := 0) G0.1 G0.2.1 dX4_readNested_6 (by decide) ?_
    have t_170 := wt_8 hG Tt
    obtain ⟨v_171, v_172, v_173, hr_176, b_174, b_175⟩ := wg_8 hWF Tt
    have bv_173 := wf_free v_173
    have tq_177 := tp_eq hr_176
    exact py_iret G0 hr rfl hlk hw ⟨⟨by omega, by omega⟩, (by first | omega | (intro q; omega)), (by first | omega | (intro q; omega)), (by first | omega | (intro q; omega)), (by first | exact rs_eq (rs_ns_0 (by omega)) (by omega) (by omega) | exact rs_eqw (rs_ns_nb (by omega) (by omega)) (by omega) (by omega) | exact rs_eqw ((rs_ns_pb (by omega) (by omega)).trans (rs_cl_0 (by omega))) (by omega) (by omega) | exact rs_eqw ((rs_ns_b (by omega) (by omega) (by omega)).trans (rs_cl_0 (by omega))) (by omega) (by omega) | exact rs_eq ((rs_ns_pb (by omega) (by omega)).trans (rs_cl_1 (by omega) (by omega))) (by omega) (by omega) | exact rs_eq ((rs_ns_pb (by omega) (by omega)).trans (rs_cl_e (by omega) (by omega))) (by omega) (by omega) | exact rs_eq ((rs_ns_b (by omega) (by omega) (by omega)).trans (rs_cl_1 (by omega) (by omega))) (by omega) (by omega) | exact rs_eq ((rs_ns_b (by omega) (by omega) (by omega)).trans (rs_cl_e (by omega) (by omega))) (by omega) (by omega)), hWF, hRP, hKP⟩ dX4_readNested_7

set_option maxHeartbeats 4000000 in
set_option maxRecDepth 100000 in
theorem k_atom (l : Launch) (E : py_E) (G : wf_G) (hG : GT G) (wb : Int) (hwb : 0 ≤ wb) (fr lo : Nat) (hfr : 10 ≤ fr) (hlo : 300 ≤ lo) (f_nested l_nested : Nat) (x_nested : f_nested ≤ fr) (z_nested : l_nested ≤ lo) (ih_nested : P_nested l E G wb f_nested l_nested) : P_atom l E G wb (fr + 1) (lo + 60) := by
  intro L f sz h t i gb nb pb eb hWF Th Tt hp0 hp1 hp2 hp3 hq0
  refine Met.ofW (cc := cX4_readAtom) (maxL := 5) (ret := (some .boolean)) (by decide) rfl ?_
  intro p e s m args below meth c s₁ B hml hv
  obtain ⟨rfl, rfl, hw⟩ := py_start hv
  have G0 : CallFix p m c cX4_readAtom 5 s _ w_X4_readAtom RX4 := ⟨B.exec, B.bytes, hml, findClass_of_methodNamed B.named, atoms_spec (ws := w_X4_readAtom) B.pre⟩
  have hr := B.returns
  have hlk := B.notSynchronized
  have kcm1 : (-1 : Int32).toInt = -1 := rfl
  have kc0 : (0 : Int32).toInt = 0 := rfl
  have kc1 : (1 : Int32).toInt = 1 := rfl
  have kc4 : (4 : Int32).toInt = 4 := rfl
  have kc6 : (6 : Int32).toInt = 6 := rfl
  have kc48 : (48 : Int32).toInt = 48 := rfl
  have kc91 : (91 : Int32).toInt = 91 := rfl
  have kc121 : (121 : Int32).toInt = 121 := rfl
  have hl := lv_entry ([.ref h, .ref t, .int i]) (n := 5) (Nat.le_of_ble_eq_true rfl)
  rw [lg_entry_eq]
  generalize (lg_sl ([.ref h, .ref t, .int i]) ++ List.replicate (5 - (lg_sl ([.ref h, .ref t, .int i])).length) Slot.unset).toArray = ls at hl ⊢
  have hl : lv_has ls 5 [(0, .ref h), (1, .ref t), (2, .int i)] := hl
  have hRP : RP E G f f := RP.refl
  have hKP : KP G [9, 4, 20] false f f := KP.refl
  have hTB := hq0
  refine lv_aload_n G0.1 G0.2.1 dX4_readAtom_0 rfl (lv_at hl 1 rfl) ?_
  have t_1 := wt_8 hG Tt
  obtain ⟨v_2, v_3, v_4, hr_7, b_5, b_6⟩ := wg_8 hWF Tt
  have bv_4 := wf_free v_4
  have tq_8 := tp_eq hr_7
  refine py_calli hw (va_runV (As := []) (rest := []) G0 (c_X8_next l E G L f s.heap.size t gb nb pb hG hWF Tt (show tp_l f t = nb ∧ tp_a f t = pb by omega) (show 0 ≤ pb ∧ nb ≤ 160 by omega) hTB) (cwV 0 G0.2.2.2.2 g_X4_readAtom_X8_next_35 rfl rfl rfl (by decide +kernel) ⟨(show 0 + 1 ≤ fr + 1 by omega), (show 8 + (1 + 11) + 0 ≤ lo + 60 by omega)⟩) (py_preV hw (C := RX8) (T := TX8) (N := 4) rfl hr_7) rfl rfl hl.1 rfl (lv_room (Nat.le_of_ble_eq_true rfl)) dX4_readAtom_1 ⟨(Nat.le_of_ble_eq_true rfl), (Nat.le_of_ble_eq_true rfl)⟩) (fun r_13 L_9 f_10 H_11 locs hp_12 hw => ?_)
  obtain ⟨en_14, en_15, en_16, en_17, en_18, hWF, hq_19, kp_20⟩ := hp_12
  have hTB := (gfn_kp (kp_f kp_20 (wt_8 hG Tt) (by decide) (by decide) (fun _ => by decide))).trans hTB
  have hRP := hRP.trans hq_19
  have hKP := hKP.trans kp_20 (by decide) (by decide)
  have br_13 := wf_free r_13
  refine lv_istore_n (lv' := [(3, .int r_13), (0, .ref h), (1, .ref t), (2, .int i)]) G0.1 G0.2.1 dX4_readAtom_4 rfl hl (by decide) rfl (fun ls hl => ?_)
  refine lv_iload_n G0.1 G0.2.1 dX4_readAtom_5 rfl (lv_at hl 0 rfl) ?_
  refine lv_bipush (v := 91) G0.1 G0.2.1 dX4_readAtom_6 (by decide) ?_
  refine lv_icmp_ne (tgt := 19) G0.1 G0.2.1 dX4_readAtom_8 (by decide) (fun c_21 => ?_) (fun c_21 => ?_)
  · skip
    have tc_21 := ti_ne c_21
    refine lv_iconst (v := 0) G0.1 G0.2.1 dX4_readAtom_19 (by decide) ?_
    refine lv_istore (lv' := [(4, .int 0), (3, .int r_13), (0, .ref h), (1, .ref t), (2, .int i)]) G0.1 G0.2.1 dX4_readAtom_20 hl (by decide) rfl (fun ls hl => ?_)
    have lo_22 : ∀ n_22 : Nat, ∀ (v_22 : Int32) (H_j22 : Heap) (locs : List Loc) (ls : Array Slot), (2147483647 - v_22.toInt).toNat = n_22 → (0 ≤ v_22.toInt ∧ v_22.toInt ≤ 2147483647) → (1 ≤ v_22.toInt → r_13.toInt ≠ 98) → (2 ≤ v_22.toInt → r_13.toInt ≠ 100) → (3 ≤ v_22.toInt → r_13.toInt ≠ 112) → (4 ≤ v_22.toInt → r_13.toInt ≠ 104) → (5 ≤ v_22.toInt → r_13.toInt ≠ 111) → (6 ≤ v_22.toInt → r_13.toInt ≠ 121) → py_W E (va_A (va_pl L f) s.heap.size) s L_9 f_10 H_j22 locs → lv_has ls 5 [(4, .int v_22), (3, .int r_13), (0, .ref h), (1, .ref t), (2, .int i)] → W p l e (headSpec w_X4_readAtom ({ frames := fr + 1, cells := 0, slots := 0, locals := lo + 60 })).room s m ([.ref h, .ref t, .int i] : List Value).toArray below meth c H_j22 locs 0 0 (MQ below (py_Qi E L f s.heap.size (fun r L1 f1 => (0 ≤ r.toInt ∧ r.toInt ≤ 1) ∧ (tp_l f1 t = nb) ∧ (pb ≤ tp_a f1 t) ∧ (r.toInt ≠ 0 → pb + 1 ≤ tp_a f1 t ∧ tp_a f1 t ≤ nb) ∧ (r.toInt = (rs_at gb nb eb pb).1 ∧ tp_a f1 t = (rs_at gb nb eb pb).2) ∧ WF E G L1 f1 ∧ RP E G f f1 ∧ KP G [9, 4, 20] false f f1)) ([.ref h, .ref t, .int i] : List Value).toArray s 0 0 (va_A (va_pl L f) s.heap.size)) (F0 m 22 ls []) := by
      intro n_22
      induction n_22 using Nat.strongRecOn with
      | _ n_22 ih_22 =>
        intro v_22 H_j22 locs ls hn_22 bv_22 iv0 iv1 iv2 iv3 iv4 iv5 hw hl
        refine lv_iload G0.1 G0.2.1 dX4_readAtom_22 (lv_at hl 0 rfl) ?_
        obtain ⟨st_23, z_24, T_25⟩ := hw.2.2.2.2.2.2.2.2.2.2
        refine va_gets (C := "HeadYear$LawReader") G0.1 G0.2.1 z_24 hw.2.2.2.1 G0.2.2.2.1 (G0.2.2.2.2 (Cond.fieldLink RX4 70 "HeadYear$LawReader" "LETTERS" "[C") (by decide +kernel)) (fun _ h => h) dX4_readAtom_24 ?_
        refine va_tlen (v := 6) G0.1 G0.2.1 T_25 hw.2.2.2.1 rfl dX4_readAtom_27 ?_
        refine lv_icmp_ge (tgt := 70) G0.1 G0.2.1 dX4_readAtom_28 (by decide) (fun c_26 => ?_) (fun c_26 => ?_)
        · skip
          have tc_26 := ti_le c_26
          refine lv_aload_n G0.1 G0.2.1 dX4_readAtom_70 rfl (lv_at hl 3 rfl) ?_
          refine lv_iconst (v := 4) G0.1 G0.2.1 dX4_readAtom_71 (by decide) ?_
          obtain ⟨v_27, v_28, v_29, hr_32, b_30, b_31⟩ := wg_8 hWF Tt
          have bv_29 := wf_free v_29
          have tq_33 := tp_eq hr_32
          refine py_calli hw (va_runV (As := [.int 4]) (rest := []) G0 (c_X8_takeNumber l E G L_9 f_10 H_j22.size t 4 gb nb (rs_sk gb nb pb) 4 hG hWF Tt ⟨by omega, by omega⟩ (show (4 : Int32).toInt = ((4 : Nat) : Int) by omega) (show tp_l f_10 t = nb ∧ tp_a f_10 t = (rs_sk gb nb pb) by omega) (show 0 ≤ (rs_sk gb nb pb) ∧ nb ≤ 160 by omega) hTB) (cwV 1 G0.2.2.2.2 g_X4_readAtom_X8_takeNumber_74 rfl rfl rfl (by decide +kernel) ⟨(show 1 + 1 ≤ fr + 1 by omega), (show 8 + (3 + 11) + 20 ≤ lo + 60 by omega)⟩) (py_preV hw (C := RX8) (T := TX8) (N := 4) rfl hr_32) rfl rfl hl.1 rfl (lv_room (Nat.le_of_ble_eq_true rfl)) dX4_readAtom_72 ⟨(Nat.le_of_ble_eq_true rfl), (Nat.le_of_ble_eq_true rfl)⟩) (fun r_38 L_34 f_35 H_36 locs hp_37 hw => ?_)
          obtain ⟨b_46, en_39, en_40, en_41, en_42, en_43, en_44, en_45, hWF, hq_47, kp_48⟩ := hp_37
          have hTB := (gfn_kp (kp_f kp_48 (wt_8 hG Tt) (by decide) (by decide) (fun _ => by decide))).trans hTB
          have hRP := hRP.trans hq_47
          have hKP := hKP.trans kp_48 (by decide) (by decide)
          refine lv_if_ne (tgt := 80) G0.1 G0.2.1 dX4_readAtom_75 (by decide) (fun c_49 => ?_) (fun c_49 => ?_)
          · skip
            have tc_49 := ti_ne c_49
            replace en_39 := en_39 (by omega)
            replace en_42 := en_42 (by omega)
            refine lv_aload_n G0.1 G0.2.1 dX4_readAtom_80 rfl (lv_at hl 2 rfl) ?_
            obtain ⟨r_50, hr_52, ty_51⟩ := wg_4 hWF Th
            refine py_get (C := RX4) (T := TX4) (N := 1) (k := 0) (v := .ref r_50) G0 hw in_X4_readAtom_X4 rfl hr_52 (by decide) (by decide +kernel) rfl dX4_readAtom_81 ?_
            refine lv_bipush (v := 48) G0.1 G0.2.1 dX4_readAtom_84 (by decide) ?_
            refine lv_aload_n G0.1 G0.2.1 dX4_readAtom_86 rfl (lv_at hl 3 rfl) ?_
            obtain ⟨v_53, v_54, v_55, hr_58, b_56, b_57⟩ := wg_8 hWF Tt
            have bv_55 := wf_free v_55
            have tq_59 := tp_eq hr_58
            refine py_get (C := RX8) (T := TX8) (N := 4) (k := 3) (v := .int v_55) G0 hw in_X4_readAtom_X8 rfl hr_58 (by decide) (by decide +kernel) rfl dX4_readAtom_87 ?_
            obtain ⟨t_60, t_61⟩ := wt_3 hG ty_51
            obtain ⟨v_62, hr_64, b_63⟩ := wg_3 hWF ty_51
            refine py_callv hw (va_runV (As := [.int 48, .int v_55]) (rest := []) G0 (c_X3_add l E G L_34 f_35 H_36.size r_50 48 v_55 hG hWF ty_51) (cwV 2 G0.2.2.2.2 g_X4_readAtom_X3_add_46 rfl rfl rfl (by decide +kernel) ⟨(show 0 + 1 ≤ fr + 1 by omega), (show 8 + (3 + 11) + 0 ≤ lo + 60 by omega)⟩) (py_preV hw (C := RX3) (T := TX3) (N := 3) rfl hr_64) rfl rfl hl.1 rfl (lv_room (Nat.le_of_ble_eq_true rfl)) dX4_readAtom_90 ⟨(Nat.le_of_ble_eq_true rfl), (Nat.le_of_ble_eq_true rfl)⟩) (fun L_65 f_66 H_67 locs hp_68 hw => ?_)
            obtain ⟨hWF, hq_70, kp_71⟩ := hp_68
            have hTB := (gfn_kp (kp_f kp_71 (wt_8 hG Tt) (by decide) (by decide) (fun _ => by decide))).trans hTB
            have hRP := hRP.trans hq_70
            have hKP := hKP.trans kp_71 (by decide) (by decide)
            have hr_52 := kp_at kp_71 hWF Th (by decide) (by decide) (by decide) hr_52
            have hr_58 := kp_at kp_71 hWF Tt (by decide) (by decide) (by decide) hr_58
            have tq_72 := tp_eq hr_58
            refine lv_iconst (v := 1) G0.1 G0.2.1 dX4_readAtom_93 (by decide) ?_
            exact py_iret G0 hr rfl hlk hw ⟨⟨by omega, by omega⟩, (by first | omega | (intro q; omega)), (by first | omega | (intro q; omega)), (by first | omega | (intro q; omega)), (by first | exact rs_eqw (rs_at_mm (by omega) (by have hz := rs_lt_eq (rs_v gb nb (rs_sk gb nb pb)); omega)) (by omega) (by omega)), hWF, hRP, hKP⟩ dX4_readAtom_94
          · skip
            have tc_49 := ti_eq c_49
            clear en_39
            clear en_42
            refine lv_iconst (v := 0) G0.1 G0.2.1 dX4_readAtom_78 (by decide) ?_
            obtain ⟨v_73, v_74, v_75, hr_78, b_76, b_77⟩ := wg_8 hWF Tt
            have bv_75 := wf_free v_75
            have tq_79 := tp_eq hr_78
            exact py_iret G0 hr rfl hlk hw ⟨⟨by omega, by omega⟩, (by first | omega | (intro q; omega)), (by first | omega | (intro q; omega)), (by first | omega | (intro q; omega)), (by first | exact rs_eqw (rs_at_mm (by omega) (by have hz := rs_lt_eq (rs_v gb nb (rs_sk gb nb pb)); omega)) (by omega) (by omega)), hWF, hRP, hKP⟩ dX4_readAtom_79
        · skip
          have tc_26 := ti_nle c_26
          obtain ⟨st_80, z_81, T_82⟩ := hw.2.2.2.2.2.2.2.2.2.2
          refine va_gets (C := "HeadYear$LawReader") G0.1 G0.2.1 z_81 hw.2.2.2.1 G0.2.2.2.1 (G0.2.2.2.2 (Cond.fieldLink RX4 70 "HeadYear$LawReader" "LETTERS" "[C") (by decide +kernel)) (fun _ h => h) dX4_readAtom_31 ?_
          refine lv_iload G0.1 G0.2.1 dX4_readAtom_34 (lv_at hl 0 rfl) ?_
          have rg_83 : vp_in v_22 6 := ti_in (by omega) (by omega)
          refine va_tc (v := .int (st_LL.getD (v_22 : Int32).toNatClampNeg 0)) G0.1 G0.2.1 T_82 hw.2.2.2.1 rg_83 rfl dX4_readAtom_36 ?_
          refine lv_topi (fun x_84 ex_84 => ?_)
          have bx_84 := st_LL_b rg_83 ex_84
          refine lv_iload_n G0.1 G0.2.1 dX4_readAtom_37 rfl (lv_at hl 1 rfl) ?_
          refine lv_icmp_ne (tgt := 64) G0.1 G0.2.1 dX4_readAtom_38 (by decide) (fun c_85 => ?_) (fun c_85 => ?_)
          · skip
            have tc_85 := ti_ne c_85
            obtain ⟨x_86, ex_86⟩ : ∃ y : Int32, y = v_22 + 1 := ⟨_, rfl⟩
            first | have tx_86 := ti_add ex_86 (by omega) (by omega) | skip
            refine lv_iinc (v := x_86) (lv' := [(4, .int x_86), (3, .int r_13), (0, .ref h), (1, .ref t), (2, .int i)]) G0.1 G0.2.1 dX4_readAtom_64 hl (k := 0) rfl (show _ + (1 : Int32) = _ from ex_86.symm) (by decide) rfl (fun ls hl => ?_)
            refine lv_goto (tgt := 22) G0.1 G0.2.1 dX4_readAtom_67 (by decide) ?_
            exact ih_22 ((2147483647 - x_86.toInt).toNat) (by omega) x_86 _ _ ls rfl ⟨by omega, by omega⟩ (by first | omega | (intros; omega)) (by first | omega | (intros; omega)) (by first | omega | (intros; omega)) (by first | omega | (intros; omega)) (by first | omega | (intros; omega)) (by first | omega | (intros; omega)) hw (lv_sub hl [0, 1, 2, 3, 4] rfl)
          · skip
            have tc_85 := ti_eq c_85
            refine lv_aload_n G0.1 G0.2.1 dX4_readAtom_41 rfl (lv_at hl 3 rfl) ?_
            refine lv_dup G0.1 G0.2.1 dX4_readAtom_42 rfl ?_
            obtain ⟨v_87, v_88, v_89, hr_92, b_90, b_91⟩ := wg_8 hWF Tt
            have bv_89 := wf_free v_89
            have tq_93 := tp_eq hr_92
            refine py_get (C := RX8) (T := TX8) (N := 4) (k := 2) (v := .int v_88) G0 hw in_X4_readAtom_X8 rfl hr_92 (by decide) (by decide +kernel) rfl dX4_readAtom_43 ?_
            refine lv_iconst (v := 1) G0.1 G0.2.1 dX4_readAtom_46 (by decide) ?_
            refine lv_iadd G0.1 G0.2.1 dX4_readAtom_47 ?_
            refine lv_topi (fun x_94 ex_94 => ?_)
            first | have tx_94 := ti_add ex_94 (by omega) (by omega) | skip
            refine py_put (C := RX8) (T := TX8) (N := 4) (k := 2) (v := .int x_94) (fs' := [.ref (G.2 t 0), .int v_87, .int x_94, .int v_89]) (ty0 := tyX8) G0 hw tyX8_ok nmX8 in_X4_readAtom_X8 rfl hr_92 (by decide) (by decide +kernel) rfl rfl rfl rfl (Nat.le_of_ble_eq_true rfl) rfl dX4_readAtom_48 (fun f_95 H_96 locs h_97 x_98 hw => ?_)
            have hTB := (gfn_kp (kp_f (KP.refl.upd hWF x_98 Tt (Or.inl (by decide)) : KP G [9] false f_10 f_95) (wt_8 hG Tt) (by decide) (by decide) (fun _ => by decide))).trans hTB
            have hKP := hKP.upd hWF x_98 Tt (Or.inl (by decide))
            have hRP := hRP.trans (rp_upd hG hWF x_98 hr_92.2 h_97.2 (rp_code hG Tt (by decide)) rfl)
            have hWF := wf_upd hWF h_97 x_98 (by rw [Tt]; exact ⟨v_87, x_94, v_89, rfl, ⟨by omega, by omega⟩, ⟨by omega, by omega⟩⟩)
            have tq_99 := tp_eq h_97
            refine lv_aload_n G0.1 G0.2.1 dX4_readAtom_51 rfl (lv_at hl 2 rfl) ?_
            obtain ⟨r_100, hr_102, ty_101⟩ := wg_4 hWF Th
            refine py_get (C := RX4) (T := TX4) (N := 1) (k := 0) (v := .ref r_100) G0 hw in_X4_readAtom_X4 rfl hr_102 (by decide) (by decide +kernel) rfl dX4_readAtom_52 ?_
            refine lv_bipush (v := 121) G0.1 G0.2.1 dX4_readAtom_55 (by decide) ?_
            refine lv_iload G0.1 G0.2.1 dX4_readAtom_57 (lv_at hl 0 rfl) ?_
            obtain ⟨t_103, t_104⟩ := wt_3 hG ty_101
            obtain ⟨v_105, hr_107, b_106⟩ := wg_3 hWF ty_101
            refine py_callv hw (va_runV (As := [.int 121, .int v_22]) (rest := []) G0 (c_X3_add l E G L_9 f_95 H_96.size r_100 121 v_22 hG hWF ty_101) (cwV 2 G0.2.2.2.2 g_X4_readAtom_X3_add_46 rfl rfl rfl (by decide +kernel) ⟨(show 0 + 1 ≤ fr + 1 by omega), (show 8 + (3 + 11) + 0 ≤ lo + 60 by omega)⟩) (py_preV hw (C := RX3) (T := TX3) (N := 3) rfl hr_107) rfl rfl hl.1 rfl (lv_room (Nat.le_of_ble_eq_true rfl)) dX4_readAtom_59 ⟨(Nat.le_of_ble_eq_true rfl), (Nat.le_of_ble_eq_true rfl)⟩) (fun L_108 f_109 H_110 locs hp_111 hw => ?_)
            obtain ⟨hWF, hq_113, kp_114⟩ := hp_111
            have hTB := (gfn_kp (kp_f kp_114 (wt_8 hG Tt) (by decide) (by decide) (fun _ => by decide))).trans hTB
            have hRP := hRP.trans hq_113
            have hKP := hKP.trans kp_114 (by decide) (by decide)
            have h_97 := kp_at kp_114 hWF Tt (by decide) (by decide) (by decide) h_97
            have tq_115 := tp_eq h_97
            have hr_102 := kp_at kp_114 hWF Th (by decide) (by decide) (by decide) hr_102
            refine lv_iconst (v := 1) G0.1 G0.2.1 dX4_readAtom_62 (by decide) ?_
            exact py_iret G0 hr rfl hlk hw ⟨⟨by omega, by omega⟩, (by first | omega | (intro q; omega)), (by first | omega | (intro q; omega)), (by first | omega | (intro q; omega)), (by first | exact rs_eq (rs_at_l (by have hz := rs_lt_eq (rs_v gb nb (rs_sk gb nb pb)); omega)) (by omega) (by omega)), hWF, hRP, hKP⟩ dX4_readAtom_63
    exact lo_22 _ 0 _ _ ls rfl ⟨by omega, by omega⟩ (by first | omega | (intros; omega)) (by first | omega | (intros; omega)) (by first | omega | (intros; omega)) (by first | omega | (intros; omega)) (by first | omega | (intros; omega)) (by first | omega | (intros; omega)) hw (lv_sub hl [0, 1, 2, 3, 4] rfl)
  · skip
    have tc_21 := ti_eq c_21
    replace en_14 := en_14 (by omega)
    refine lv_aload_n G0.1 G0.2.1 dX4_readAtom_11 rfl (lv_at hl 1 rfl) ?_
    refine lv_aload_n G0.1 G0.2.1 dX4_readAtom_12 rfl (lv_at hl 2 rfl) ?_
    refine lv_iload_n G0.1 G0.2.1 dX4_readAtom_13 rfl (lv_at hl 0 rfl) ?_
    refine lv_iload_n G0.1 G0.2.1 dX4_readAtom_14 rfl (lv_at hl 3 rfl) ?_
    obtain ⟨r_116, hr_118, ty_117⟩ := wg_4 hWF Th
    refine py_calli hw (va_runV (As := [.ref t, .int r_13, .int i]) (rest := []) G0 (ih_nested L_9 f_10 H_11.size h t r_13 i gb nb (rs_sk gb nb pb) eb hWF Th Tt (show wb ≤ i.toInt ∧ i.toInt ≤ 6 by omega) (show tp_a f_10 t < tp_l f_10 t by omega) (show i.toInt = 6 - ((eb : Nat) : Int) by omega) (show tp_l f_10 t = nb ∧ tp_a f_10 t = (rs_sk gb nb pb) by omega) (show 0 ≤ (rs_sk gb nb pb) ∧ nb ≤ 160 by omega) hTB) (cwV 3 G0.2.2.2.2 g_X4_readAtom_X4_readNested_66 rfl rfl rfl (by decide +kernel) ⟨(show f_nested + 1 ≤ fr + 1 by omega), (show 8 + (5 + 11) + l_nested ≤ lo + 60 by omega)⟩) (py_preV hw (C := RX4) (T := TX4) (N := 1) rfl hr_118) rfl rfl hl.1 rfl (lv_room (Nat.le_of_ble_eq_true rfl)) dX4_readAtom_15 ⟨(Nat.le_of_ble_eq_true rfl), (Nat.le_of_ble_eq_true rfl)⟩) (fun r_123 L_119 f_120 H_121 locs hp_122 hw => ?_)
    obtain ⟨b_128, en_124, en_125, en_126, en_127, hWF, hq_129, kp_130⟩ := hp_122
    have hTB := (gfn_kp (kp_f kp_130 (wt_8 hG Tt) (by decide) (by decide) (fun _ => by decide))).trans hTB
    have hRP := hRP.trans hq_129
    have hKP := hKP.trans kp_130 (by decide) (by decide)
    have hr_118 := kp_at kp_130 hWF Th (by decide) (by decide) (by decide) hr_118
    obtain ⟨v_131, v_132, v_133, hr_136, b_134, b_135⟩ := wg_8 hWF Tt
    have bv_133 := wf_free v_133
    have tq_137 := tp_eq hr_136
    exact py_iret G0 hr (ti_bool (by omega) (by omega)) hlk hw ⟨⟨by omega, by omega⟩, (by first | omega | (intro q; omega)), (by first | omega | (intro q; omega)), (by first | omega | (intro q; omega)), (by first | exact rs_eqw (rs_at_ns (by omega) (by omega)) en_127.1 en_127.2), hWF, hRP, hKP⟩ dX4_readAtom_18
