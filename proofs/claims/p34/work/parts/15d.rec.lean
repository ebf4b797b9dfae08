set_option maxHeartbeats 4000000 in
set_option maxRecDepth 100000 in
theorem k_unit (l : Launch) (E : py_E) (G : wf_G) (hG : GT G) (wb : Int) (hwb : 0 ≤ wb) (fr lo : Nat) (hfr : 10 ≤ fr) (hlo : 300 ≤ lo) (f_nested l_nested : Nat) (x_nested : f_nested ≤ fr) (z_nested : l_nested ≤ lo) (ih_nested : P_nested l E G wb f_nested l_nested) (f_chain2 l_chain2 : Nat) (x_chain2 : f_chain2 ≤ fr) (z_chain2 : l_chain2 ≤ lo) (ih_chain2 : P_chain2 l E G wb f_chain2 l_chain2) : P_unit l E G wb (fr + 1) (lo + 60) := by
  intro L f sz h t i b gb nb pb eb bb hWF Th Tt Bb hp0 hp1 hp2 hp3 hp4 hq0
  refine Met.ofW (cc := cX4_readUnit) (maxL := 6) (ret := (some .boolean)) (by decide) rfl ?_
  intro p e s m args below meth c s₁ B hml hv
  obtain ⟨rfl, rfl, hw⟩ := py_start hv
  have G0 : CallFix p m c cX4_readUnit 6 s _ w_X4_readUnit RX4 := ⟨B.exec, B.bytes, hml, findClass_of_methodNamed B.named, atoms_spec (ws := w_X4_readUnit) B.pre⟩
  have hr := B.returns
  have hlk := B.notSynchronized
  have kcm1 : (-1 : Int32).toInt = -1 := rfl
  have kc0 : (0 : Int32).toInt = 0 := rfl
  have kc1 : (1 : Int32).toInt = 1 := rfl
  have kc2 : (2 : Int32).toInt = 2 := rfl
  have kc33 : (33 : Int32).toInt = 33 := rfl
  have kc40 : (40 : Int32).toInt = 40 := rfl
  have hl := lv_entry ([.ref h, .ref t, .int i, .int b]) (n := 6) (Nat.le_of_ble_eq_true rfl)
  rw [lg_entry_eq]
  generalize (lg_sl ([.ref h, .ref t, .int i, .int b]) ++ List.replicate (6 - (lg_sl ([.ref h, .ref t, .int i, .int b])).length) Slot.unset).toArray = ls at hl ⊢
  have hl : lv_has ls 6 [(0, .ref h), (1, .ref t), (2, .int i), (3, .int b)] := hl
  have hRP : RP E G f f := RP.refl
  have hKP : KP G [9, 4, 20] false f f := KP.refl
  have hTB := hq0
  refine lv_iload_n G0.1 G0.2.1 dX4_readUnit_0 rfl (lv_at hl 3 rfl) ?_
  refine lv_if_eq (tgt := 8) G0.1 G0.2.1 dX4_readUnit_1 (by decide) (fun c_1 => ?_) (fun c_1 => ?_)
  · skip
    have tc_1 := ti_eq c_1
    refine lv_aload_n G0.1 G0.2.1 dX4_readUnit_8 rfl (lv_at hl 1 rfl) ?_
    have t_2 := wt_8 hG Tt
    obtain ⟨v_3, v_4, v_5, hr_8, b_6, b_7⟩ := wg_8 hWF Tt
    have bv_5 := wf_free v_5
    have tq_9 := tp_eq hr_8
    refine py_calli hw (va_runV (As := []) (rest := []) G0 (c_X8_next l E G L f s.heap.size t gb nb pb hG hWF Tt (show tp_l f t = nb ∧ tp_a f t = pb by omega) (show 0 ≤ pb ∧ nb ≤ 160 by omega) hTB) (cwV 0 G0.2.2.2.2 g_X4_readUnit_X8_next_35 rfl rfl rfl (by decide +kernel) ⟨(show 0 + 1 ≤ fr + 1 by omega), (show 8 + (1 + 11) + 0 ≤ lo + 60 by omega)⟩) (py_preV hw (C := RX8) (T := TX8) (N := 4) rfl hr_8) rfl rfl hl.1 rfl (lv_room (Nat.le_of_ble_eq_true rfl)) dX4_readUnit_9 ⟨(Nat.le_of_ble_eq_true rfl), (Nat.le_of_ble_eq_true rfl)⟩) (fun r_14 L_10 f_11 H_12 locs hp_13 hw => ?_)
    obtain ⟨en_15, en_16, en_17, en_18, en_19, hWF, hq_20, kp_21⟩ := hp_13
    have hTB := (gfn_kp (kp_f kp_21 (wt_8 hG Tt) (by decide) (by decide) (fun _ => by decide))).trans hTB
    have hRP := hRP.trans hq_20
    have hKP := hKP.trans kp_21 (by decide) (by decide)
    have br_14 := wf_free r_14
    refine lv_istore (lv' := [(4, .int r_14), (0, .ref h), (1, .ref t), (2, .int i), (3, .int b)]) G0.1 G0.2.1 dX4_readUnit_12 hl (by decide) rfl (fun ls hl => ?_)
    refine lv_iload G0.1 G0.2.1 dX4_readUnit_14 (lv_at hl 0 rfl) ?_
    refine lv_bipush (v := 33) G0.1 G0.2.1 dX4_readUnit_16 (by decide) ?_
    refine lv_icmp_eq (tgt := 28) G0.1 G0.2.1 dX4_readUnit_18 (by decide) (fun c_22 => ?_) (fun c_22 => ?_)
    · skip
      have tc_22 := ti_eq c_22
      replace en_15 := en_15 (by omega)
      refine lv_aload_n G0.1 G0.2.1 dX4_readUnit_28 rfl (lv_at hl 1 rfl) ?_
      refine lv_aload_n G0.1 G0.2.1 dX4_readUnit_29 rfl (lv_at hl 2 rfl) ?_
      refine lv_iload G0.1 G0.2.1 dX4_readUnit_30 (lv_at hl 0 rfl) ?_
      refine lv_iload_n G0.1 G0.2.1 dX4_readUnit_32 rfl (lv_at hl 3 rfl) ?_
      obtain ⟨r_23, hr_25, ty_24⟩ := wg_4 hWF Th
      refine py_calli hw (va_runV (As := [.ref t, .int r_14, .int i]) (rest := []) G0 (ih_nested L_10 f_11 H_12.size h t r_14 i gb nb (rs_sk gb nb pb) eb hWF Th Tt (show wb ≤ i.toInt ∧ i.toInt ≤ 6 by omega) (show tp_a f_11 t < tp_l f_11 t by omega) (show i.toInt = 6 - ((eb : Nat) : Int) by omega) (show tp_l f_11 t = nb ∧ tp_a f_11 t = (rs_sk gb nb pb) by omega) (show 0 ≤ (rs_sk gb nb pb) ∧ nb ≤ 160 by omega) hTB) (cwV 3 G0.2.2.2.2 g_X4_readUnit_X4_readNested_66 rfl rfl rfl (by decide +kernel) ⟨(show f_nested + 1 ≤ fr + 1 by omega), (show 8 + (5 + 11) + l_nested ≤ lo + 60 by omega)⟩) (py_preV hw (C := RX4) (T := TX4) (N := 1) rfl hr_25) rfl rfl hl.1 rfl (lv_room (Nat.le_of_ble_eq_true rfl)) dX4_readUnit_33 ⟨(Nat.le_of_ble_eq_true rfl), (Nat.le_of_ble_eq_true rfl)⟩) (fun r_30 L_26 f_27 H_28 locs hp_29 hw => ?_)
      obtain ⟨b_35, en_31, en_32, en_33, en_34, hWF, hq_36, kp_37⟩ := hp_29
      have hTB := (gfn_kp (kp_f kp_37 (wt_8 hG Tt) (by decide) (by decide) (fun _ => by decide))).trans hTB
      have hRP := hRP.trans hq_36
      have hKP := hKP.trans kp_37 (by decide) (by decide)
      have hr_25 := kp_at kp_37 hWF Th (by decide) (by decide) (by decide) hr_25
      obtain ⟨v_38, v_39, v_40, hr_43, b_41, b_42⟩ := wg_8 hWF Tt
      have bv_40 := wf_free v_40
      have tq_44 := tp_eq hr_43
      exact py_iret G0 hr (ti_bool (by omega) (by omega)) hlk hw ⟨⟨by omega, by omega⟩, (by first | omega | (intro q; omega)), (by first | omega | (intro q; omega)), (by first | omega | (intro q; omega)), (by first | exact rs_eqw ((rs_unb_0 (by omega)).trans (rs_un_ns (by omega) (by omega))) en_34.1 en_34.2), hWF, hRP, hKP⟩ dX4_readUnit_36
    · skip
      have tc_22 := ti_ne c_22
      refine lv_iload G0.1 G0.2.1 dX4_readUnit_21 (lv_at hl 0 rfl) ?_
      refine lv_bipush (v := 40) G0.1 G0.2.1 dX4_readUnit_23 (by decide) ?_
      refine lv_icmp_ne (tgt := 37) G0.1 G0.2.1 dX4_readUnit_25 (by decide) (fun c_45 => ?_) (fun c_45 => ?_)
      · skip
        have tc_45 := ti_ne c_45
        refine lv_iload_n G0.1 G0.2.1 dX4_readUnit_37 rfl (lv_at hl 4 rfl) ?_
        refine lv_if_ne (tgt := 54) G0.1 G0.2.1 dX4_readUnit_38 (by decide) (fun c_46 => ?_) (fun c_46 => ?_)
        · skip
          have tc_46 := ti_ne c_46
          refine lv_aload_n G0.1 G0.2.1 dX4_readUnit_54 rfl (lv_at hl 2 rfl) ?_
          obtain ⟨v_47, v_48, v_49, hr_52, b_50, b_51⟩ := wg_8 hWF Tt
          have bv_49 := wf_free v_49
          have tq_53 := tp_eq hr_52
          refine py_calli hw (va_runV (As := []) (rest := []) G0 (c_X8_next l E G L_10 f_11 H_12.size t gb nb pb hG hWF Tt (show tp_l f_11 t = nb ∧ tp_a f_11 t = pb by omega) (show 0 ≤ pb ∧ nb ≤ 160 by omega) hTB) (cwV 0 G0.2.2.2.2 g_X4_readUnit_X8_next_35 rfl rfl rfl (by decide +kernel) ⟨(show 0 + 1 ≤ fr + 1 by omega), (show 8 + (1 + 11) + 0 ≤ lo + 60 by omega)⟩) (py_preV hw (C := RX8) (T := TX8) (N := 4) rfl hr_52) rfl rfl hl.1 rfl (lv_room (Nat.le_of_ble_eq_true rfl)) dX4_readUnit_55 ⟨(Nat.le_of_ble_eq_true rfl), (Nat.le_of_ble_eq_true rfl)⟩) (fun r_58 L_54 f_55 H_56 locs hp_57 hw => ?_)
          obtain ⟨en_59, en_60, en_61, en_62, en_63, hWF, hq_64, kp_65⟩ := hp_57
          have hTB := (gfn_kp (kp_f kp_65 (wt_8 hG Tt) (by decide) (by decide) (fun _ => by decide))).trans hTB
          have hRP := hRP.trans hq_64
          have hKP := hKP.trans kp_65 (by decide) (by decide)
          have br_58 := wf_free r_58
          refine lv_istore (lv' := [(5, .int r_58), (4, .int r_14), (0, .ref h), (1, .ref t), (2, .int i), (3, .int b)]) G0.1 G0.2.1 dX4_readUnit_58 hl (by decide) rfl (fun ls hl => ?_)
          refine lv_iload G0.1 G0.2.1 dX4_readUnit_60 (lv_at hl 0 rfl) ?_
          refine py_calli hw (va_runS (As := [.int r_58]) (rest := []) G0 (c_X4_isComparison l E G L_54 f_55 H_56.size r_58 (rs_v gb nb (rs_sk gb nb pb)) hG hWF (show r_58.toInt = (rs_v gb nb (rs_sk gb nb pb)) by omega)) (va_cwS 1 G0.2.2.2.2 g_X4_readUnit_X4_isComparison_43 rfl rfl rfl (by decide +kernel) ⟨(show 0 + 1 ≤ fr + 1 by omega), (show 8 + (1 + 11) + 0 ≤ lo + 60 by omega)⟩) (py_preS hw) rfl rfl hl.1 rfl (lv_room (Nat.le_of_ble_eq_true rfl)) dX4_readUnit_62 ⟨(Nat.le_of_ble_eq_true rfl), (Nat.le_of_ble_eq_true rfl)⟩) (fun r_70 L_66 f_67 H_68 locs hp_69 hw => ?_)
          obtain ⟨b_74, en_71, en_72, en_73, rfl, rfl⟩ := hp_69
          refine lv_if_ne (tgt := 70) G0.1 G0.2.1 dX4_readUnit_65 (by decide) (fun c_75 => ?_) (fun c_75 => ?_)
          · skip
            have tc_75 := ti_ne c_75
            replace en_71 := en_71 (by omega)
            replace en_72 := en_72 (by omega)
            clear en_73
            refine lv_aload_n G0.1 G0.2.1 dX4_readUnit_70 rfl (lv_at hl 3 rfl) ?_
            refine lv_dup G0.1 G0.2.1 dX4_readUnit_71 rfl ?_
            obtain ⟨v_76, v_77, v_78, hr_81, b_79, b_80⟩ := wg_8 hWF Tt
            have bv_78 := wf_free v_78
            have tq_82 := tp_eq hr_81
            refine py_get (C := RX8) (T := TX8) (N := 4) (k := 2) (v := .int v_77) G0 hw in_X4_readUnit_X8 rfl hr_81 (by decide) (by decide +kernel) rfl dX4_readUnit_72 ?_
            refine lv_iconst (v := 1) G0.1 G0.2.1 dX4_readUnit_75 (by decide) ?_
            refine lv_iadd G0.1 G0.2.1 dX4_readUnit_76 ?_
            refine lv_topi (fun x_83 ex_83 => ?_)
            first | have tx_83 := ti_add ex_83 (by omega) (by omega) | skip
            refine py_put (C := RX8) (T := TX8) (N := 4) (k := 2) (v := .int x_83) (fs' := [.ref (G.2 t 0), .int v_76, .int x_83, .int v_78]) (ty0 := tyX8) G0 hw tyX8_ok nmX8 in_X4_readUnit_X8 rfl hr_81 (by decide) (by decide +kernel) rfl rfl rfl rfl (Nat.le_of_ble_eq_true rfl) rfl dX4_readUnit_77 (fun f_84 H_85 locs h_86 x_87 hw => ?_)
            have hTB := (gfn_kp (kp_f (KP.refl.upd hWF x_87 Tt (Or.inl (by decide)) : KP G [9] false f_55 f_84) (wt_8 hG Tt) (by decide) (by decide) (fun _ => by decide))).trans hTB
            have hKP := hKP.upd hWF x_87 Tt (Or.inl (by decide))
            have hRP := hRP.trans (rp_upd hG hWF x_87 hr_81.2 h_86.2 (rp_code hG Tt (by decide)) rfl)
            have hWF := wf_upd hWF h_86 x_87 (by rw [Tt]; exact ⟨v_76, x_83, v_78, rfl, ⟨by omega, by omega⟩, ⟨by omega, by omega⟩⟩)
            have tq_88 := tp_eq h_86
            refine lv_aload_n G0.1 G0.2.1 dX4_readUnit_80 rfl (lv_at hl 2 rfl) ?_
            refine lv_aload_n G0.1 G0.2.1 dX4_readUnit_81 rfl (lv_at hl 3 rfl) ?_
            refine lv_iconst (v := 2) G0.1 G0.2.1 dX4_readUnit_82 (by decide) ?_
            refine lv_iload_n G0.1 G0.2.1 dX4_readUnit_83 rfl (lv_at hl 4 rfl) ?_
            refine lv_iconst (v := 0) G0.1 G0.2.1 dX4_readUnit_84 (by decide) ?_
            obtain ⟨r_89, hr_91, ty_90⟩ := wg_4 hWF Th
            refine py_calli hw (va_runV (As := [.ref t, .int 2, .int i, .int 0]) (rest := []) G0 (ih_chain2 L_54 f_84 H_85.size h t i 0 gb nb (rs_sk gb nb pb + 1) eb hWF Th Tt ⟨by omega, by omega⟩ (show wb ≤ i.toInt ∧ i.toInt ≤ 6 by omega) (show i.toInt = 6 - ((eb : Nat) : Int) by omega) (show tp_l f_84 t = nb ∧ tp_a f_84 t = (rs_sk gb nb pb + 1) by omega) (show 0 ≤ (rs_sk gb nb pb + 1) ∧ nb ≤ 160 by omega) hTB) (cwV 4 G0.2.2.2.2 g_X4_readUnit_X4_readChain_39 rfl rfl rfl (by decide +kernel) ⟨(show f_chain2 + 1 ≤ fr + 1 by omega), (show 8 + (9 + 11) + l_chain2 ≤ lo + 60 by omega)⟩) (py_preV hw (C := RX4) (T := TX4) (N := 1) rfl hr_91) rfl rfl hl.1 rfl (lv_room (Nat.le_of_ble_eq_true rfl)) dX4_readUnit_85 ⟨(Nat.le_of_ble_eq_true rfl), (Nat.le_of_ble_eq_true rfl)⟩) (fun r_96 L_92 f_93 H_94 locs hp_95 hw => ?_)
            obtain ⟨b_101, en_97, en_98, en_99, en_100, hWF, hq_102, kp_103⟩ := hp_95
            have hTB := (gfn_kp (kp_f kp_103 (wt_8 hG Tt) (by decide) (by decide) (fun _ => by decide))).trans hTB
            have hRP := hRP.trans hq_102
            have hKP := hKP.trans kp_103 (by decide) (by decide)
            have hr_91 := kp_at kp_103 hWF Th (by decide) (by decide) (by decide) hr_91
            refine lv_if_ne (tgt := 93) G0.1 G0.2.1 dX4_readUnit_88 (by decide) (fun c_104 => ?_) (fun c_104 => ?_)
            · skip
              have tc_104 := ti_ne c_104
              replace en_99 := en_99 (by omega)
              refine lv_aload_n G0.1 G0.2.1 dX4_readUnit_93 rfl (lv_at hl 2 rfl) ?_
              refine py_get (C := RX4) (T := TX4) (N := 1) (k := 0) (v := .ref r_89) G0 hw in_X4_readUnit_X4 rfl hr_91 (by decide) (by decide +kernel) rfl dX4_readUnit_94 ?_
              refine lv_iload G0.1 G0.2.1 dX4_readUnit_97 (lv_at hl 0 rfl) ?_
              refine lv_iconst (v := 0) G0.1 G0.2.1 dX4_readUnit_99 (by decide) ?_
              obtain ⟨t_105, t_106⟩ := wt_3 hG ty_90
              obtain ⟨v_107, hr_109, b_108⟩ := wg_3 hWF ty_90
              obtain ⟨v_110, v_111, v_112, hr_115, b_113, b_114⟩ := wg_8 hWF Tt
              have bv_112 := wf_free v_112
              have tq_116 := tp_eq hr_115
              refine py_callv hw (va_runV (As := [.int r_58, .int 0]) (rest := []) G0 (c_X3_add l E G L_92 f_93 H_94.size r_89 r_58 0 hG hWF ty_90) (cwV 2 G0.2.2.2.2 g_X4_readUnit_X3_add_46 rfl rfl rfl (by decide +kernel) ⟨(show 0 + 1 ≤ fr + 1 by omega), (show 8 + (3 + 11) + 0 ≤ lo + 60 by omega)⟩) (py_preV hw (C := RX3) (T := TX3) (N := 3) rfl hr_109) rfl rfl hl.1 rfl (lv_room (Nat.le_of_ble_eq_true rfl)) dX4_readUnit_100 ⟨(Nat.le_of_ble_eq_true rfl), (Nat.le_of_ble_eq_true rfl)⟩) (fun L_117 f_118 H_119 locs hp_120 hw => ?_)
              obtain ⟨hWF, hq_122, kp_123⟩ := hp_120
              have hTB := (gfn_kp (kp_f kp_123 (wt_8 hG Tt) (by decide) (by decide) (fun _ => by decide))).trans hTB
              have hRP := hRP.trans hq_122
              have hKP := hKP.trans kp_123 (by decide) (by decide)
              have hr_91 := kp_at kp_123 hWF Th (by decide) (by decide) (by decide) hr_91
              have hr_115 := kp_at kp_123 hWF Tt (by decide) (by decide) (by decide) hr_115
              have tq_124 := tp_eq hr_115
              refine lv_iconst (v := 1) G0.1 G0.2.1 dX4_readUnit_103 (by decide) ?_
              exact py_iret G0 hr rfl hlk hw ⟨⟨by omega, by omega⟩, (by first | omega | (intro q; omega)), (by first | omega | (intro q; omega)), (by first | omega | (intro q; omega)), (by first | exact rs_eq ((rs_unb_1 (by omega)).trans (rs_cmp_0 (by omega))) (by omega) (by omega) | exact rs_eqw ((rs_unb_1 (by omega)).trans (rs_cmp_1 (by omega))) (by omega) (by omega)), hWF, hRP, hKP⟩ dX4_readUnit_104
            · skip
              have tc_104 := ti_eq c_104
              clear en_99
              refine lv_iconst (v := 0) G0.1 G0.2.1 dX4_readUnit_91 (by decide) ?_
              obtain ⟨v_125, v_126, v_127, hr_130, b_128, b_129⟩ := wg_8 hWF Tt
              have bv_127 := wf_free v_127
              have tq_131 := tp_eq hr_130
              exact py_iret G0 hr rfl hlk hw ⟨⟨by omega, by omega⟩, (by first | omega | (intro q; omega)), (by first | omega | (intro q; omega)), (by first | omega | (intro q; omega)), (by first | exact rs_eq ((rs_unb_1 (by omega)).trans (rs_cmp_0 (by omega))) (by omega) (by omega) | exact rs_eqw ((rs_unb_1 (by omega)).trans (rs_cmp_1 (by omega))) (by omega) (by omega)), hWF, hRP, hKP⟩ dX4_readUnit_92
          · skip
            have tc_75 := ti_eq c_75
            clear en_71
            clear en_72
            replace en_73 := en_73 (by omega)
            refine lv_iconst (v := 0) G0.1 G0.2.1 dX4_readUnit_68 (by decide) ?_
            obtain ⟨v_132, v_133, v_134, hr_137, b_135, b_136⟩ := wg_8 hWF Tt
            have bv_134 := wf_free v_134
            have tq_138 := tp_eq hr_137
            exact py_iret G0 hr rfl hlk hw ⟨⟨by omega, by omega⟩, (by first | omega | (intro q; omega)), (by first | omega | (intro q; omega)), (by first | omega | (intro q; omega)), (by first | exact rs_eq ((rs_unb_1 (by omega)).trans (rs_cmp_0 (by omega))) (by omega) (by omega) | exact rs_eqw ((rs_unb_1 (by omega)).trans (rs_cmp_1 (by omega))) (by omega) (by omega)), hWF, hRP, hKP⟩ dX4_readUnit_69
        · skip
          have tc_46 := ti_eq c_46
          refine lv_aload_n G0.1 G0.2.1 dX4_readUnit_41 rfl (lv_at hl 1 rfl) ?_
          refine lv_aload_n G0.1 G0.2.1 dX4_readUnit_42 rfl (lv_at hl 2 rfl) ?_
          refine lv_iconst (v := 2) G0.1 G0.2.1 dX4_readUnit_43 (by decide) ?_
          refine lv_iload_n G0.1 G0.2.1 dX4_readUnit_44 rfl (lv_at hl 3 rfl) ?_
          refine lv_iconst (v := 0) G0.1 G0.2.1 dX4_readUnit_45 (by decide) ?_
          obtain ⟨r_139, hr_141, ty_140⟩ := wg_4 hWF Th
          refine py_calli hw (va_runV (As := [.ref t, .int 2, .int i, .int 0]) (rest := []) G0 (ih_chain2 L_10 f_11 H_12.size h t i 0 gb nb (rs_sk gb nb pb) eb hWF Th Tt ⟨by omega, by omega⟩ (show wb ≤ i.toInt ∧ i.toInt ≤ 6 by omega) (show i.toInt = 6 - ((eb : Nat) : Int) by omega) (show tp_l f_11 t = nb ∧ tp_a f_11 t = (rs_sk gb nb pb) by omega) (show 0 ≤ (rs_sk gb nb pb) ∧ nb ≤ 160 by omega) hTB) (cwV 4 G0.2.2.2.2 g_X4_readUnit_X4_readChain_39 rfl rfl rfl (by decide +kernel) ⟨(show f_chain2 + 1 ≤ fr + 1 by omega), (show 8 + (9 + 11) + l_chain2 ≤ lo + 60 by omega)⟩) (py_preV hw (C := RX4) (T := TX4) (N := 1) rfl hr_141) rfl rfl hl.1 rfl (lv_room (Nat.le_of_ble_eq_true rfl)) dX4_readUnit_46 ⟨(Nat.le_of_ble_eq_true rfl), (Nat.le_of_ble_eq_true rfl)⟩) (fun r_146 L_142 f_143 H_144 locs hp_145 hw => ?_)
          obtain ⟨b_151, en_147, en_148, en_149, en_150, hWF, hq_152, kp_153⟩ := hp_145
          have hTB := (gfn_kp (kp_f kp_153 (wt_8 hG Tt) (by decide) (by decide) (fun _ => by decide))).trans hTB
          have hRP := hRP.trans hq_152
          have hKP := hKP.trans kp_153 (by decide) (by decide)
          have hr_141 := kp_at kp_153 hWF Th (by decide) (by decide) (by decide) hr_141
          refine lv_if_ne (tgt := 54) G0.1 G0.2.1 dX4_readUnit_49 (by decide) (fun c_154 => ?_) (fun c_154 => ?_)
          · skip
            have tc_154 := ti_ne c_154
            replace en_149 := en_149 (by omega)
            refine lv_aload_n G0.1 G0.2.1 dX4_readUnit_54 rfl (lv_at hl 2 rfl) ?_
            obtain ⟨v_155, v_156, v_157, hr_160, b_158, b_159⟩ := wg_8 hWF Tt
            have bv_157 := wf_free v_157
            have tq_161 := tp_eq hr_160
            refine py_calli hw (va_runV (As := []) (rest := []) G0 (c_X8_next l E G L_142 f_143 H_144.size t gb nb (rs_sm gb nb eb (rs_sk gb nb pb)).2 hG hWF Tt (show tp_l f_143 t = nb ∧ tp_a f_143 t = (rs_sm gb nb eb (rs_sk gb nb pb)).2 by omega) (show 0 ≤ (rs_sm gb nb eb (rs_sk gb nb pb)).2 ∧ nb ≤ 160 by omega) hTB) (cwV 0 G0.2.2.2.2 g_X4_readUnit_X8_next_35 rfl rfl rfl (by decide +kernel) ⟨(show 0 + 1 ≤ fr + 1 by omega), (show 8 + (1 + 11) + 0 ≤ lo + 60 by omega)⟩) (py_preV hw (C := RX8) (T := TX8) (N := 4) rfl hr_160) rfl rfl hl.1 rfl (lv_room (Nat.le_of_ble_eq_true rfl)) dX4_readUnit_55 ⟨(Nat.le_of_ble_eq_true rfl), (Nat.le_of_ble_eq_true rfl)⟩) (fun r_166 L_162 f_163 H_164 locs hp_165 hw => ?_)
            obtain ⟨en_167, en_168, en_169, en_170, en_171, hWF, hq_172, kp_173⟩ := hp_165
            have hTB := (gfn_kp (kp_f kp_173 (wt_8 hG Tt) (by decide) (by decide) (fun _ => by decide))).trans hTB
            have hRP := hRP.trans hq_172
            have hKP := hKP.trans kp_173 (by decide) (by decide)
            have hr_141 := kp_at kp_173 hWF Th (by decide) (by decide) (by decide) hr_141
            have br_166 := wf_free r_166
            refine lv_istore (lv' := [(5, .int r_166), (4, .int r_14), (0, .ref h), (1, .ref t), (2, .int i), (3, .int b)]) G0.1 G0.2.1 dX4_readUnit_58 hl (by decide) rfl (fun ls hl => ?_)
            refine lv_iload G0.1 G0.2.1 dX4_readUnit_60 (lv_at hl 0 rfl) ?_
            refine py_calli hw (va_runS (As := [.int r_166]) (rest := []) G0 (c_X4_isComparison l E G L_162 f_163 H_164.size r_166 (rs_v gb nb (rs_sk gb nb (rs_sm gb nb eb (rs_sk gb nb pb)).2)) hG hWF (show r_166.toInt = (rs_v gb nb (rs_sk gb nb (rs_sm gb nb eb (rs_sk gb nb pb)).2)) by omega)) (va_cwS 1 G0.2.2.2.2 g_X4_readUnit_X4_isComparison_43 rfl rfl rfl (by decide +kernel) ⟨(show 0 + 1 ≤ fr + 1 by omega), (show 8 + (1 + 11) + 0 ≤ lo + 60 by omega)⟩) (py_preS hw) rfl rfl hl.1 rfl (lv_room (Nat.le_of_ble_eq_true rfl)) dX4_readUnit_62 ⟨(Nat.le_of_ble_eq_true rfl), (Nat.le_of_ble_eq_true rfl)⟩) (fun r_178 L_174 f_175 H_176 locs hp_177 hw => ?_)
            obtain ⟨b_182, en_179, en_180, en_181, rfl, rfl⟩ := hp_177
            refine lv_if_ne (tgt := 70) G0.1 G0.2.1 dX4_readUnit_65 (by decide) (fun c_183 => ?_) (fun c_183 => ?_)
            · skip
              have tc_183 := ti_ne c_183
              replace en_179 := en_179 (by omega)
              replace en_180 := en_180 (by omega)
              clear en_181
              refine lv_aload_n G0.1 G0.2.1 dX4_readUnit_70 rfl (lv_at hl 3 rfl) ?_
              refine lv_dup G0.1 G0.2.1 dX4_readUnit_71 rfl ?_
              obtain ⟨v_184, v_185, v_186, hr_189, b_187, b_188⟩ := wg_8 hWF Tt
              have bv_186 := wf_free v_186
              have tq_190 := tp_eq hr_189
              refine py_get (C := RX8) (T := TX8) (N := 4) (k := 2) (v := .int v_185) G0 hw in_X4_readUnit_X8 rfl hr_189 (by decide) (by decide +kernel) rfl dX4_readUnit_72 ?_
              refine lv_iconst (v := 1) G0.1 G0.2.1 dX4_readUnit_75 (by decide) ?_
              refine lv_iadd G0.1 G0.2.1 dX4_readUnit_76 ?_
              refine lv_topi (fun x_191 ex_191 => ?_)
              first | have tx_191 := ti_add ex_191 (by omega) (by omega) | skip
              refine py_put (C := RX8) (T := TX8) (N := 4) (k := 2) (v := .int x_191) (fs' := [.ref (G.2 t 0), .int v_184, .int x_191, .int v_186]) (ty0 := tyX8) G0 hw tyX8_ok nmX8 in_X4_readUnit_X8 rfl hr_189 (by decide) (by decide +kernel) rfl rfl rfl rfl (Nat.le_of_ble_eq_true rfl) rfl dX4_readUnit_77 (fun f_192 H_193 locs h_194 x_195 hw => ?_)
              have hTB := (gfn_kp (kp_f (KP.refl.upd hWF x_195 Tt (Or.inl (by decide)) : KP G [9] false f_163 f_192) (wt_8 hG Tt) (by decide) (by decide) (fun _ => by decide))).trans hTB
              have hKP := hKP.upd hWF x_195 Tt (Or.inl (by decide))
              have hRP := hRP.trans (rp_upd hG hWF x_195 hr_189.2 h_194.2 (rp_code hG Tt (by decide)) rfl)
              have hWF := wf_upd hWF h_194 x_195 (by rw [Tt]; exact ⟨v_184, x_191, v_186, rfl, ⟨by omega, by omega⟩, ⟨by omega, by omega⟩⟩)
              have tq_196 := tp_eq h_194
              have hr_141 := hr_141.ext x_195 (py_ne_kind hr_141 hr_189 (by decide))
              refine lv_aload_n G0.1 G0.2.1 dX4_readUnit_80 rfl (lv_at hl 2 rfl) ?_
              refine lv_aload_n G0.1 G0.2.1 dX4_readUnit_81 rfl (lv_at hl 3 rfl) ?_
              refine lv_iconst (v := 2) G0.1 G0.2.1 dX4_readUnit_82 (by decide) ?_
              refine lv_iload_n G0.1 G0.2.1 dX4_readUnit_83 rfl (lv_at hl 4 rfl) ?_
              refine lv_iconst (v := 0) G0.1 G0.2.1 dX4_readUnit_84 (by decide) ?_
              refine py_calli hw (va_runV (As := [.ref t, .int 2, .int i, .int 0]) (rest := []) G0 (ih_chain2 L_162 f_192 H_193.size h t i 0 gb nb (rs_sk gb nb (rs_sm gb nb eb (rs_sk gb nb pb)).2 + 1) eb hWF Th Tt ⟨by omega, by omega⟩ (show wb ≤ i.toInt ∧ i.toInt ≤ 6 by omega) (show i.toInt = 6 - ((eb : Nat) : Int) by omega) (show tp_l f_192 t = nb ∧ tp_a f_192 t = (rs_sk gb nb (rs_sm gb nb eb (rs_sk gb nb pb)).2 + 1) by omega) (show 0 ≤ (rs_sk gb nb (rs_sm gb nb eb (rs_sk gb nb pb)).2 + 1) ∧ nb ≤ 160 by omega) hTB) (cwV 4 G0.2.2.2.2 g_X4_readUnit_X4_readChain_39 rfl rfl rfl (by decide +kernel) ⟨(show f_chain2 + 1 ≤ fr + 1 by omega), (show 8 + (9 + 11) + l_chain2 ≤ lo + 60 by omega)⟩) (py_preV hw (C := RX4) (T := TX4) (N := 1) rfl hr_141) rfl rfl hl.1 rfl (lv_room (Nat.le_of_ble_eq_true rfl)) dX4_readUnit_85 ⟨(Nat.le_of_ble_eq_true rfl), (Nat.le_of_ble_eq_true rfl)⟩) (fun r_201 L_197 f_198 H_199 locs hp_200 hw => ?_)
              obtain ⟨b_206, en_202, en_203, en_204, en_205, hWF, hq_207, kp_208⟩ := hp_200
              have hTB := (gfn_kp (kp_f kp_208 (wt_8 hG Tt) (by decide) (by decide) (fun _ => by decide))).trans hTB
              have hRP := hRP.trans hq_207
              have hKP := hKP.trans kp_208 (by decide) (by decide)
              have hr_141 := kp_at kp_208 hWF Th (by decide) (by decide) (by decide) hr_141
              refine lv_if_ne (tgt := 93) G0.1 G0.2.1 dX4_readUnit_88 (by decide) (fun c_209 => ?_) (fun c_209 => ?_)
              · skip
                have tc_209 := ti_ne c_209
                replace en_204 := en_204 (by omega)
                refine lv_aload_n G0.1 G0.2.1 dX4_readUnit_93 rfl (lv_at hl 2 rfl) ?_
                refine py_get (C := RX4) (T := TX4) (N := 1) (k := 0) (v := .ref r_139) G0 hw in_X4_readUnit_X4 rfl hr_141 (by decide) (by decide +kernel) rfl dX4_readUnit_94 ?_
                refine lv_iload G0.1 G0.2.1 dX4_readUnit_97 (lv_at hl 0 rfl) ?_
                refine lv_iconst (v := 0) G0.1 G0.2.1 dX4_readUnit_99 (by decide) ?_
                obtain ⟨t_210, t_211⟩ := wt_3 hG ty_140
                obtain ⟨v_212, hr_214, b_213⟩ := wg_3 hWF ty_140
                obtain ⟨v_215, v_216, v_217, hr_220, b_218, b_219⟩ := wg_8 hWF Tt
                have bv_217 := wf_free v_217
                have tq_221 := tp_eq hr_220
                refine py_callv hw (va_runV (As := [.int r_166, .int 0]) (rest := []) G0 (c_X3_add l E G L_197 f_198 H_199.size r_139 r_166 0 hG hWF ty_140) (cwV 2 G0.2.2.2.2 g_X4_readUnit_X3_add_46 rfl rfl rfl (by decide +kernel) ⟨(show 0 + 1 ≤ fr + 1 by omega), (show 8 + (3 + 11) + 0 ≤ lo + 60 by omega)⟩) (py_preV hw (C := RX3) (T := TX3) (N := 3) rfl hr_214) rfl rfl hl.1 rfl (lv_room (Nat.le_of_ble_eq_true rfl)) dX4_readUnit_100 ⟨(Nat.le_of_ble_eq_true rfl), (Nat.le_of_ble_eq_true rfl)⟩) (fun L_222 f_223 H_224 locs hp_225 hw => ?_)
                obtain ⟨hWF, hq_227, kp_228⟩ := hp_225
                have hTB := (gfn_kp (kp_f kp_228 (wt_8 hG Tt) (by decide) (by decide) (fun _ => by decide))).trans hTB
                have hRP := hRP.trans hq_227
                have hKP := hKP.trans kp_228 (by decide) (by decide)
                have hr_141 := kp_at kp_228 hWF Th (by decide) (by decide) (by decide) hr_141
                have hr_220 := kp_at kp_228 hWF Tt (by decide) (by decide) (by decide) hr_220
                have tq_229 := tp_eq hr_220
                refine lv_iconst (v := 1) G0.1 G0.2.1 dX4_readUnit_103 (by decide) ?_
                exact py_iret G0 hr rfl hlk hw ⟨⟨by omega, by omega⟩, (by first | omega | (intro q; omega)), (by first | omega | (intro q; omega)), (by first | omega | (intro q; omega)), (by first | exact rs_eqw ((rs_unb_0 (by omega)).trans ((rs_un_s (by omega) (by omega)).trans (rs_th_0 (by omega)))) (by omega) (by omega) | exact rs_eq ((rs_unb_0 (by omega)).trans ((rs_un_s (by omega) (by omega)).trans ((rs_th_1 (by omega)).trans (rs_cmp_0 (by omega))))) (by omega) (by omega) | exact rs_eqw ((rs_unb_0 (by omega)).trans ((rs_un_s (by omega) (by omega)).trans ((rs_th_1 (by omega)).trans (rs_cmp_1 (by omega))))) (by omega) (by omega)), hWF, hRP, hKP⟩ dX4_readUnit_104
              · skip
                have tc_209 := ti_eq c_209
                clear en_204
                refine lv_iconst (v := 0) G0.1 G0.2.1 dX4_readUnit_91 (by decide) ?_
                obtain ⟨v_230, v_231, v_232, hr_235, b_233, b_234⟩ := wg_8 hWF Tt
                have bv_232 := wf_free v_232
                have tq_236 := tp_eq hr_235
                exact py_iret G0 hr rfl hlk hw ⟨⟨by omega, by omega⟩, (by first | omega | (intro q; omega)), (by first | omega | (intro q; omega)), (by first | omega | (intro q; omega)), (by first | exact rs_eqw ((rs_unb_0 (by omega)).trans ((rs_un_s (by omega) (by omega)).trans (rs_th_0 (by omega)))) (by omega) (by omega) | exact rs_eq ((rs_unb_0 (by omega)).trans ((rs_un_s (by omega) (by omega)).trans ((rs_th_1 (by omega)).trans (rs_cmp_0 (by omega))))) (by omega) (by omega) | exact rs_eqw ((rs_unb_0 (by omega)).trans ((rs_un_s (by omega) (by omega)).trans ((rs_th_1 (by omega)).trans (rs_cmp_1 (by omega))))) (by omega) (by omega)), hWF, hRP, hKP⟩ dX4_readUnit_92
            · skip
              have tc_183 := ti_eq c_183
              clear en_179
              clear en_180
              replace en_181 := en_181 (by omega)
              refine lv_iconst (v := 0) G0.1 G0.2.1 dX4_readUnit_68 (by decide) ?_
              obtain ⟨v_237, v_238, v_239, hr_242, b_240, b_241⟩ := wg_8 hWF Tt
              have bv_239 := wf_free v_239
              have tq_243 := tp_eq hr_242
              exact py_iret G0 hr rfl hlk hw ⟨⟨by omega, by omega⟩, (by first | omega | (intro q; omega)), (by first | omega | (intro q; omega)), (by first | omega | (intro q; omega)), (by first | exact rs_eqw ((rs_unb_0 (by omega)).trans ((rs_un_s (by omega) (by omega)).trans (rs_th_0 (by omega)))) (by omega) (by omega) | exact rs_eq ((rs_unb_0 (by omega)).trans ((rs_un_s (by omega) (by omega)).trans ((rs_th_1 (by omega)).trans (rs_cmp_0 (by omega))))) (by omega) (by omega) | exact rs_eqw ((rs_unb_0 (by omega)).trans ((rs_un_s (by omega) (by omega)).trans ((rs_th_1 (by omega)).trans (rs_cmp_1 (by omega))))) (by omega) (by omega)), hWF, hRP, hKP⟩ dX4_readUnit_69
          · skip
            have tc_154 := ti_eq c_154
            clear en_149
            refine lv_iconst (v := 0) G0.1 G0.2.1 dX4_readUnit_52 (by decide) ?_
            obtain ⟨v_244, v_245, v_246, hr_249, b_247, b_248⟩ := wg_8 hWF Tt
            have bv_246 := wf_free v_246
            have tq_250 := tp_eq hr_249
            exact py_iret G0 hr rfl hlk hw ⟨⟨by omega, by omega⟩, (by first | omega | (intro q; omega)), (by first | omega | (intro q; omega)), (by first | omega | (intro q; omega)), (by first | exact rs_eqw ((rs_unb_0 (by omega)).trans ((rs_un_s (by omega) (by omega)).trans (rs_th_0 (by omega)))) (by omega) (by omega) | exact rs_eq ((rs_unb_0 (by omega)).trans ((rs_un_s (by omega) (by omega)).trans ((rs_th_1 (by omega)).trans (rs_cmp_0 (by omega))))) (by omega) (by omega) | exact rs_eqw ((rs_unb_0 (by omega)).trans ((rs_un_s (by omega) (by omega)).trans ((rs_th_1 (by omega)).trans (rs_cmp_1 (by omega))))) (by omega) (by omega)), hWF, hRP, hKP⟩ dX4_readUnit_53
      · skip
        have tc_45 := ti_eq c_45
        replace en_15 := en_15 (by omega)
        refine lv_aload_n G0.1 G0.2.1 dX4_readUnit_28 rfl (lv_at hl 1 rfl) ?_
        refine lv_aload_n G0.1 G0.2.1 dX4_readUnit_29 rfl (lv_at hl 2 rfl) ?_
        refine lv_iload G0.1 G0.2.1 dX4_readUnit_30 (lv_at hl 0 rfl) ?_
        refine lv_iload_n G0.1 G0.2.1 dX4_readUnit_32 rfl (lv_at hl 3 rfl) ?_
        obtain ⟨r_251, hr_253, ty_252⟩ := wg_4 hWF Th
        refine py_calli hw (va_runV (As := [.ref t, .int r_14, .int i]) (rest := []) G0 (ih_nested L_10 f_11 H_12.size h t r_14 i gb nb (rs_sk gb nb pb) eb hWF Th Tt (show wb ≤ i.toInt ∧ i.toInt ≤ 6 by omega) (show tp_a f_11 t < tp_l f_11 t by omega) (show i.toInt = 6 - ((eb : Nat) : Int) by omega) (show tp_l f_11 t = nb ∧ tp_a f_11 t = (rs_sk gb nb pb) by omega) (show 0 ≤ (rs_sk gb nb pb) ∧ nb ≤ 160 by omega) hTB) (cwV 3 G0.2.2.2.2 g_X4_readUnit_X4_readNested_66 rfl rfl rfl (by decide +kernel) ⟨(show f_nested + 1 ≤ fr + 1 by omega), (show 8 + (5 + 11) + l_nested ≤ lo + 60 by omega)⟩) (py_preV hw (C := RX4) (T := TX4) (N := 1) rfl hr_253) rfl rfl hl.1 rfl (lv_room (Nat.le_of_ble_eq_true rfl)) dX4_readUnit_33 ⟨(Nat.le_of_ble_eq_true rfl), (Nat.le_of_ble_eq_true rfl)⟩) (fun r_258 L_254 f_255 H_256 locs hp_257 hw => ?_)
        obtain ⟨b_263, en_259, en_260, en_261, en_262, hWF, hq_264, kp_265⟩ := hp_257
        have hTB := (gfn_kp (kp_f kp_265 (wt_8 hG Tt) (by decide) (by decide) (fun _ => by decide))).trans hTB
        have hRP := hRP.trans hq_264
        have hKP := hKP.trans kp_265 (by decide) (by decide)
        have hr_253 := kp_at kp_265 hWF Th (by decide) (by decide) (by decide) hr_253
        obtain ⟨v_266, v_267, v_268, hr_271, b_269, b_270⟩ := wg_8 hWF Tt
        have bv_268 := wf_free v_268
        have tq_272 := tp_eq hr_271
        exact py_iret G0 hr (ti_bool (by omega) (by omega)) hlk hw ⟨⟨by omega, by omega⟩, (by first | omega | (intro q; omega)), (by first | omega | (intro q; omega)), (by first | omega | (intro q; omega)), (by first | exact rs_eqw ((rs_unb_0 (by omega)).trans (rs_un_ns (by omega) (by omega))) en_262.1 en_262.2), hWF, hRP, hKP⟩ dX4_readUnit_36
  · skip
    have tc_1 := ti_ne c_1
    refine lv_iconst (v := 0) G0.1 G0.2.1 dX4_readUnit_4 (by decide) ?_
    refine lv_goto (tgt := 12) G0.1 G0.2.1 dX4_readUnit_5 (by decide) ?_
    refine lv_istore (lv' := [(4, .int 0), (0, .ref h), (1, .ref t), (2, .int i), (3, .int b)]) G0.1 G0.2.1 dX4_readUnit_12 hl (by decide) rfl (fun ls hl => ?_)
    refine lv_iload G0.1 G0.2.1 dX4_readUnit_14 (lv_at hl 0 rfl) ?_
    refine lv_bipush (v := 33) G0.1 G0.2.1 dX4_readUnit_16 (by decide) ?_
    refine lv_icmp_eq (tgt := 28) G0.1 G0.2.1 dX4_readUnit_18 (by decide) (fun c_273 => ?_) (fun c_273 => ?_)
    · skip
      exact absurd c_273 (by decide)
    · skip
      have tc_273 := ti_ne c_273
      refine lv_iload G0.1 G0.2.1 dX4_readUnit_21 (lv_at hl 0 rfl) ?_
      refine lv_bipush (v := 40) G0.1 G0.2.1 dX4_readUnit_23 (by decide) ?_
      refine lv_icmp_ne (tgt := 37) G0.1 G0.2.1 dX4_readUnit_25 (by decide) (fun c_274 => ?_) (fun c_274 => ?_)
      · skip
        have tc_274 := ti_ne c_274
        refine lv_iload_n G0.1 G0.2.1 dX4_readUnit_37 rfl (lv_at hl 4 rfl) ?_
        refine lv_if_ne (tgt := 54) G0.1 G0.2.1 dX4_readUnit_38 (by decide) (fun c_275 => ?_) (fun c_275 => ?_)
        · skip
          have tc_275 := ti_ne c_275
          refine lv_aload_n G0.1 G0.2.1 dX4_readUnit_54 rfl (lv_at hl 2 rfl) ?_
          have t_276 := wt_8 hG Tt
          obtain ⟨v_277, v_278, v_279, hr_282, b_280, b_281⟩ := wg_8 hWF Tt
          have bv_279 := wf_free v_279
          have tq_283 := tp_eq hr_282
          refine py_calli hw (va_runV (As := []) (rest := []) G0 (c_X8_next l E G L f s.heap.size t gb nb pb hG hWF Tt (show tp_l f t = nb ∧ tp_a f t = pb by omega) (show 0 ≤ pb ∧ nb ≤ 160 by omega) hTB) (cwV 0 G0.2.2.2.2 g_X4_readUnit_X8_next_35 rfl rfl rfl (by decide +kernel) ⟨(show 0 + 1 ≤ fr + 1 by omega), (show 8 + (1 + 11) + 0 ≤ lo + 60 by omega)⟩) (py_preV hw (C := RX8) (T := TX8) (N := 4) rfl hr_282) rfl rfl hl.1 rfl (lv_room (Nat.le_of_ble_eq_true rfl)) dX4_readUnit_55 ⟨(Nat.le_of_ble_eq_true rfl), (Nat.le_of_ble_eq_true rfl)⟩) (fun r_288 L_284 f_285 H_286 locs hp_287 hw => ?_)
          obtain ⟨en_289, en_290, en_291, en_292, en_293, hWF, hq_294, kp_295⟩ := hp_287
          have hTB := (gfn_kp (kp_f kp_295 (wt_8 hG Tt) (by decide) (by decide) (fun _ => by decide))).trans hTB
          have hRP := hRP.trans hq_294
          have hKP := hKP.trans kp_295 (by decide) (by decide)
          have br_288 := wf_free r_288
          refine lv_istore (lv' := [(5, .int r_288), (4, .int 0), (0, .ref h), (1, .ref t), (2, .int i), (3, .int b)]) G0.1 G0.2.1 dX4_readUnit_58 hl (by decide) rfl (fun ls hl => ?_)
          refine lv_iload G0.1 G0.2.1 dX4_readUnit_60 (lv_at hl 0 rfl) ?_
          refine py_calli hw (va_runS (As := [.int r_288]) (rest := []) G0 (c_X4_isComparison l E G L_284 f_285 H_286.size r_288 (rs_v gb nb (rs_sk gb nb pb)) hG hWF (show r_288.toInt = (rs_v gb nb (rs_sk gb nb pb)) by omega)) (va_cwS 1 G0.2.2.2.2 g_X4_readUnit_X4_isComparison_43 rfl rfl rfl (by decide +kernel) ⟨(show 0 + 1 ≤ fr + 1 by omega), (show 8 + (1 + 11) + 0 ≤ lo + 60 by omega)⟩) (py_preS hw) rfl rfl hl.1 rfl (lv_room (Nat.le_of_ble_eq_true rfl)) dX4_readUnit_62 ⟨(Nat.le_of_ble_eq_true rfl), (Nat.le_of_ble_eq_true rfl)⟩) (fun r_300 L_296 f_297 H_298 locs hp_299 hw => ?_)
          obtain ⟨b_304, en_301, en_302, en_303, rfl, rfl⟩ := hp_299
          refine lv_if_ne (tgt := 70) G0.1 G0.2.1 dX4_readUnit_65 (by decide) (fun c_305 => ?_) (fun c_305 => ?_)
          · skip
            have tc_305 := ti_ne c_305
            replace en_301 := en_301 (by omega)
            replace en_302 := en_302 (by omega)
            clear en_303
            refine lv_aload_n G0.1 G0.2.1 dX4_readUnit_70 rfl (lv_at hl 3 rfl) ?_
            refine lv_dup G0.1 G0.2.1 dX4_readUnit_71 rfl ?_
            obtain ⟨v_306, v_307, v_308, hr_311, b_309, b_310⟩ := wg_8 hWF Tt
            have bv_308 := wf_free v_308
            have tq_312 := tp_eq hr_311
            refine py_get (C := RX8) (T := TX8) (N := 4) (k := 2) (v := .int v_307) G0 hw in_X4_readUnit_X8 rfl hr_311 (by decide) (by decide +kernel) rfl dX4_readUnit_72 ?_
            refine lv_iconst (v := 1) G0.1 G0.2.1 dX4_readUnit_75 (by decide) ?_
            refine lv_iadd G0.1 G0.2.1 dX4_readUnit_76 ?_
            refine lv_topi (fun x_313 ex_313 => ?_)
            first | have tx_313 := ti_add ex_313 (by omega) (by omega) | skip
            refine py_put (C := RX8) (T := TX8) (N := 4) (k := 2) (v := .int x_313) (fs' := [.ref (G.2 t 0), .int v_306, .int x_313, .int v_308]) (ty0 := tyX8) G0 hw tyX8_ok nmX8 in_X4_readUnit_X8 rfl hr_311 (by decide) (by decide +kernel) rfl rfl rfl rfl (Nat.le_of_ble_eq_true rfl) rfl dX4_readUnit_77 (fun f_314 H_315 locs h_316 x_317 hw => ?_)
            have hTB := (gfn_kp (kp_f (KP.refl.upd hWF x_317 Tt (Or.inl (by decide)) : KP G [9] false f_285 f_314) (wt_8 hG Tt) (by decide) (by decide) (fun _ => by decide))).trans hTB
            have hKP := hKP.upd hWF x_317 Tt (Or.inl (by decide))
            have hRP := hRP.trans (rp_upd hG hWF x_317 hr_311.2 h_316.2 (rp_code hG Tt (by decide)) rfl)
            have hWF := wf_upd hWF h_316 x_317 (by rw [Tt]; exact ⟨v_306, x_313, v_308, rfl, ⟨by omega, by omega⟩, ⟨by omega, by omega⟩⟩)
            have tq_318 := tp_eq h_316
            refine lv_aload_n G0.1 G0.2.1 dX4_readUnit_80 rfl (lv_at hl 2 rfl) ?_
            refine lv_aload_n G0.1 G0.2.1 dX4_readUnit_81 rfl (lv_at hl 3 rfl) ?_
            refine lv_iconst (v := 2) G0.1 G0.2.1 dX4_readUnit_82 (by decide) ?_
            refine lv_iload_n G0.1 G0.2.1 dX4_readUnit_83 rfl (lv_at hl 4 rfl) ?_
            refine lv_iconst (v := 0) G0.1 G0.2.1 dX4_readUnit_84 (by decide) ?_
            obtain ⟨r_319, hr_321, ty_320⟩ := wg_4 hWF Th
            refine py_calli hw (va_runV (As := [.ref t, .int 2, .int i, .int 0]) (rest := []) G0 (ih_chain2 L_284 f_314 H_315.size h t i 0 gb nb (rs_sk gb nb pb + 1) eb hWF Th Tt ⟨by omega, by omega⟩ (show wb ≤ i.toInt ∧ i.toInt ≤ 6 by omega) (show i.toInt = 6 - ((eb : Nat) : Int) by omega) (show tp_l f_314 t = nb ∧ tp_a f_314 t = (rs_sk gb nb pb + 1) by omega) (show 0 ≤ (rs_sk gb nb pb + 1) ∧ nb ≤ 160 by omega) hTB) (cwV 4 G0.2.2.2.2 g_X4_readUnit_X4_readChain_39 rfl rfl rfl (by decide +kernel) ⟨(show f_chain2 + 1 ≤ fr + 1 by omega), (show 8 + (9 + 11) + l_chain2 ≤ lo + 60 by omega)⟩) (py_preV hw (C := RX4) (T := TX4) (N := 1) rfl hr_321) rfl rfl hl.1 rfl (lv_room (Nat.le_of_ble_eq_true rfl)) dX4_readUnit_85 ⟨(Nat.le_of_ble_eq_true rfl), (Nat.le_of_ble_eq_true rfl)⟩) (fun r_326 L_322 f_323 H_324 locs hp_325 hw => ?_)
            obtain ⟨b_331, en_327, en_328, en_329, en_330, hWF, hq_332, kp_333⟩ := hp_325
            have hTB := (gfn_kp (kp_f kp_333 (wt_8 hG Tt) (by decide) (by decide) (fun _ => by decide))).trans hTB
            have hRP := hRP.trans hq_332
            have hKP := hKP.trans kp_333 (by decide) (by decide)
            have hr_321 := kp_at kp_333 hWF Th (by decide) (by decide) (by decide) hr_321
            refine lv_if_ne (tgt := 93) G0.1 G0.2.1 dX4_readUnit_88 (by decide) (fun c_334 => ?_) (fun c_334 => ?_)
            · skip
              have tc_334 := ti_ne c_334
              replace en_329 := en_329 (by omega)
              refine lv_aload_n G0.1 G0.2.1 dX4_readUnit_93 rfl (lv_at hl 2 rfl) ?_
              refine py_get (C := RX4) (T := TX4) (N := 1) (k := 0) (v := .ref r_319) G0 hw in_X4_readUnit_X4 rfl hr_321 (by decide) (by decide +kernel) rfl dX4_readUnit_94 ?_
              refine lv_iload G0.1 G0.2.1 dX4_readUnit_97 (lv_at hl 0 rfl) ?_
              refine lv_iconst (v := 0) G0.1 G0.2.1 dX4_readUnit_99 (by decide) ?_
              obtain ⟨t_335, t_336⟩ := wt_3 hG ty_320
              obtain ⟨v_337, hr_339, b_338⟩ := wg_3 hWF ty_320
              obtain ⟨v_340, v_341, v_342, hr_345, b_343, b_344⟩ := wg_8 hWF Tt
              have bv_342 := wf_free v_342
              have tq_346 := tp_eq hr_345
              refine py_callv hw (va_runV (As := [.int r_288, .int 0]) (rest := []) G0 (c_X3_add l E G L_322 f_323 H_324.size r_319 r_288 0 hG hWF ty_320) (cwV 2 G0.2.2.2.2 g_X4_readUnit_X3_add_46 rfl rfl rfl (by decide +kernel) ⟨(show 0 + 1 ≤ fr + 1 by omega), (show 8 + (3 + 11) + 0 ≤ lo + 60 by omega)⟩) (py_preV hw (C := RX3) (T := TX3) (N := 3) rfl hr_339) rfl rfl hl.1 rfl (lv_room (Nat.le_of_ble_eq_true rfl)) dX4_readUnit_100 ⟨(Nat.le_of_ble_eq_true rfl), (Nat.le_of_ble_eq_true rfl)⟩) (fun L_347 f_348 H_349 locs hp_350 hw => ?_)
              obtain ⟨hWF, hq_352, kp_353⟩ := hp_350
              have hTB := (gfn_kp (kp_f kp_353 (wt_8 hG Tt) (by decide) (by decide) (fun _ => by decide))).trans hTB
              have hRP := hRP.trans hq_352
              have hKP := hKP.trans kp_353 (by decide) (by decide)
              have hr_321 := kp_at kp_353 hWF Th (by decide) (by decide) (by decide) hr_321
              have hr_345 := kp_at kp_353 hWF Tt (by decide) (by decide) (by decide) hr_345
              have tq_354 := tp_eq hr_345
              refine lv_iconst (v := 1) G0.1 G0.2.1 dX4_readUnit_103 (by decide) ?_
              exact py_iret G0 hr rfl hlk hw ⟨⟨by omega, by omega⟩, (by first | omega | (intro q; omega)), (by first | omega | (intro q; omega)), (by first | omega | (intro q; omega)), (by first | exact rs_eq ((rs_unb_1 (by omega)).trans (rs_cmp_0 (by omega))) (by omega) (by omega) | exact rs_eqw ((rs_unb_1 (by omega)).trans (rs_cmp_1 (by omega))) (by omega) (by omega)), hWF, hRP, hKP⟩ dX4_readUnit_104
            · skip
              have tc_334 := ti_eq c_334
              clear en_329
              refine lv_iconst (v := 0) G0.1 G0.2.1 dX4_readUnit_91 (by decide) ?_
              obtain ⟨v_355, v_356, v_357, hr_360, b_358, b_359⟩ := wg_8 hWF Tt
              have bv_357 := wf_free v_357
              have tq_361 := tp_eq hr_360
              exact py_iret G0 hr rfl hlk hw ⟨⟨by omega, by omega⟩, (by first | omega | (intro q; omega)), (by first | omega | (intro q; omega)), (by first | omega | (intro q; omega)), (by first | exact rs_eq ((rs_unb_1 (by omega)).trans (rs_cmp_0 (by omega))) (by omega) (by omega) | exact rs_eqw ((rs_unb_1 (by omega)).trans (rs_cmp_1 (by omega))) (by omega) (by omega)), hWF, hRP, hKP⟩ dX4_readUnit_92
          · skip
            have tc_305 := ti_eq c_305
            clear en_301
            clear en_302
            replace en_303 := en_303 (by omega)
            refine lv_iconst (v := 0) G0.1 G0.2.1 dX4_readUnit_68 (by decide) ?_
            obtain ⟨v_362, v_363, v_364, hr_367, b_365, b_366⟩ := wg_8 hWF Tt
            have bv_364 := wf_free v_364
            have tq_368 := tp_eq hr_367
            exact py_iret G0 hr rfl hlk hw ⟨⟨by omega, by omega⟩, (by first | omega | (intro q; omega)), (by first | omega | (intro q; omega)), (by first | omega | (intro q; omega)), (by first | exact rs_eq ((rs_unb_1 (by omega)).trans (rs_cmp_0 (by omega))) (by omega) (by omega) | exact rs_eqw ((rs_unb_1 (by omega)).trans (rs_cmp_1 (by omega))) (by omega) (by omega)), hWF, hRP, hKP⟩ dX4_readUnit_69
        · skip
          have tc_275 := ti_eq c_275
          refine lv_aload_n G0.1 G0.2.1 dX4_readUnit_41 rfl (lv_at hl 1 rfl) ?_
          refine lv_aload_n G0.1 G0.2.1 dX4_readUnit_42 rfl (lv_at hl 2 rfl) ?_
          refine lv_iconst (v := 2) G0.1 G0.2.1 dX4_readUnit_43 (by decide) ?_
          refine lv_iload_n G0.1 G0.2.1 dX4_readUnit_44 rfl (lv_at hl 3 rfl) ?_
          refine lv_iconst (v := 0) G0.1 G0.2.1 dX4_readUnit_45 (by decide) ?_
          obtain ⟨r_369, hr_371, ty_370⟩ := wg_4 hWF Th
          refine py_calli hw (va_runV (As := [.ref t, .int 2, .int i, .int 0]) (rest := []) G0 (ih_chain2 L f s.heap.size h t i 0 gb nb (rs_sk gb nb pb) eb hWF Th Tt ⟨by omega, by omega⟩ (show wb ≤ i.toInt ∧ i.toInt ≤ 6 by omega) (show i.toInt = 6 - ((eb : Nat) : Int) by omega) (show tp_l f t = nb ∧ tp_a f t = (rs_sk gb nb pb) by omega) (show 0 ≤ (rs_sk gb nb pb) ∧ nb ≤ 160 by omega) hTB) (cwV 4 G0.2.2.2.2 g_X4_readUnit_X4_readChain_39 rfl rfl rfl (by decide +kernel) ⟨(show f_chain2 + 1 ≤ fr + 1 by omega), (show 8 + (9 + 11) + l_chain2 ≤ lo + 60 by omega)⟩) (py_preV hw (C := RX4) (T := TX4) (N := 1) rfl hr_371) rfl rfl hl.1 rfl (lv_room (Nat.le_of_ble_eq_true rfl)) dX4_readUnit_46 ⟨(Nat.le_of_ble_eq_true rfl), (Nat.le_of_ble_eq_true rfl)⟩) (fun r_376 L_372 f_373 H_374 locs hp_375 hw => ?_)
          obtain ⟨b_381, en_377, en_378, en_379, en_380, hWF, hq_382, kp_383⟩ := hp_375
          have hTB := (gfn_kp (kp_f kp_383 (wt_8 hG Tt) (by decide) (by decide) (fun _ => by decide))).trans hTB
          have hRP := hRP.trans hq_382
          have hKP := hKP.trans kp_383 (by decide) (by decide)
          have hr_371 := kp_at kp_383 hWF Th (by decide) (by decide) (by decide) hr_371
          refine lv_if_ne (tgt := 54) G0.1 G0.2.1 dX4_readUnit_49 (by decide) (fun c_384 => ?_) (fun c_384 => ?_)
          · skip
            have tc_384 := ti_ne c_384
            replace en_379 := en_379 (by omega)
            refine lv_aload_n G0.1 G0.2.1 dX4_readUnit_54 rfl (lv_at hl 2 rfl) ?_
            have t_385 := wt_8 hG Tt
            obtain ⟨v_386, v_387, v_388, hr_391, b_389, b_390⟩ := wg_8 hWF Tt
            have bv_388 := wf_free v_388
            have tq_392 := tp_eq hr_391
            refine py_calli hw (va_runV (As := []) (rest := []) G0 (c_X8_next l E G L_372 f_373 H_374.size t gb nb (rs_sm gb nb eb (rs_sk gb nb pb)).2 hG hWF Tt (show tp_l f_373 t = nb ∧ tp_a f_373 t = (rs_sm gb nb eb (rs_sk gb nb pb)).2 by omega) (show 0 ≤ (rs_sm gb nb eb (rs_sk gb nb pb)).2 ∧ nb ≤ 160 by omega) hTB) (cwV 0 G0.2.2.2.2 g_X4_readUnit_X8_next_35 rfl rfl rfl (by decide +kernel) ⟨(show 0 + 1 ≤ fr + 1 by omega), (show 8 + (1 + 11) + 0 ≤ lo + 60 by omega)⟩) (py_preV hw (C := RX8) (T := TX8) (N := 4) rfl hr_391) rfl rfl hl.1 rfl (lv_room (Nat.le_of_ble_eq_true rfl)) dX4_readUnit_55 ⟨(Nat.le_of_ble_eq_true rfl), (Nat.le_of_ble_eq_true rfl)⟩) (fun r_397 L_393 f_394 H_395 locs hp_396 hw => ?_)
            obtain ⟨en_398, en_399, en_400, en_401, en_402, hWF, hq_403, kp_404⟩ := hp_396
            have hTB := (gfn_kp (kp_f kp_404 (wt_8 hG Tt) (by decide) (by decide) (fun _ => by decide))).trans hTB
            have hRP := hRP.trans hq_403
            have hKP := hKP.trans kp_404 (by decide) (by decide)
            have hr_371 := kp_at kp_404 hWF Th (by decide) (by decide) (by decide) hr_371
            have br_397 := wf_free r_397
            refine lv_istore (lv' := [(5, .int r_397), (4, .int 0), (0, .ref h), (1, .ref t), (2, .int i), (3, .int b)]) G0.1 G0.2.1 dX4_readUnit_58 hl (by decide) rfl (fun ls hl => ?_)
            refine lv_iload G0.1 G0.2.1 dX4_readUnit_60 (lv_at hl 0 rfl) ?_
            refine py_calli hw (va_runS (As := [.int r_397]) (rest := []) G0 (c_X4_isComparison l E G L_393 f_394 H_395.size r_397 (rs_v gb nb (rs_sk gb nb (rs_sm gb nb eb (rs_sk gb nb pb)).2)) hG hWF (show r_397.toInt = (rs_v gb nb (rs_sk gb nb (rs_sm gb nb eb (rs_sk gb nb pb)).2)) by omega)) (va_cwS 1 G0.2.2.2.2 g_X4_readUnit_X4_isComparison_43 rfl rfl rfl (by decide +kernel) ⟨(show 0 + 1 ≤ fr + 1 by omega), (show 8 + (1 + 11) + 0 ≤ lo + 60 by omega)⟩) (py_preS hw) rfl rfl hl.1 rfl (lv_room (Nat.le_of_ble_eq_true rfl)) dX4_readUnit_62 ⟨(Nat.le_of_ble_eq_true rfl), (Nat.le_of_ble_eq_true rfl)⟩) (fun r_409 L_405 f_406 H_407 locs hp_408 hw => ?_)
            obtain ⟨b_413, en_410, en_411, en_412, rfl, rfl⟩ := hp_408
            refine lv_if_ne (tgt := 70) G0.1 G0.2.1 dX4_readUnit_65 (by decide) (fun c_414 => ?_) (fun c_414 => ?_)
            · skip
              have tc_414 := ti_ne c_414
              replace en_410 := en_410 (by omega)
              replace en_411 := en_411 (by omega)
              clear en_412
              refine lv_aload_n G0.1 G0.2.1 dX4_readUnit_70 rfl (lv_at hl 3 rfl) ?_
              refine lv_dup G0.1 G0.2.1 dX4_readUnit_71 rfl ?_
              obtain ⟨v_415, v_416, v_417, hr_420, b_418, b_419⟩ := wg_8 hWF Tt
              have bv_417 := wf_free v_417
              have tq_421 := tp_eq hr_420
              refine py_get (C := RX8) (T := TX8) (N := 4) (k := 2) (v := .int v_416) G0 hw in_X4_readUnit_X8 rfl hr_420 (by decide) (by decide +kernel) rfl dX4_readUnit_72 ?_
              refine lv_iconst (v := 1) G0.1 G0.2.1 dX4_readUnit_75 (by decide) ?_
              refine lv_iadd G0.1 G0.2.1 dX4_readUnit_76 ?_
              refine lv_topi (fun x_422 ex_422 => ?_)
              first | have tx_422 := ti_add ex_422 (by omega) (by omega) | skip
              refine py_put (C := RX8) (T := TX8) (N := 4) (k := 2) (v := .int x_422) (fs' := [.ref (G.2 t 0), .int v_415, .int x_422, .int v_417]) (ty0 := tyX8) G0 hw tyX8_ok nmX8 in_X4_readUnit_X8 rfl hr_420 (by decide) (by decide +kernel) rfl rfl rfl rfl (Nat.le_of_ble_eq_true rfl) rfl dX4_readUnit_77 (fun f_423 H_424 locs h_425 x_426 hw => ?_)
              have hTB := (gfn_kp (kp_f (KP.refl.upd hWF x_426 Tt (Or.inl (by decide)) : KP G [9] false f_394 f_423) (wt_8 hG Tt) (by decide) (by decide) (fun _ => by decide))).trans hTB
              have hKP := hKP.upd hWF x_426 Tt (Or.inl (by decide))
              have hRP := hRP.trans (rp_upd hG hWF x_426 hr_420.2 h_425.2 (rp_code hG Tt (by decide)) rfl)
              have hWF := wf_upd hWF h_425 x_426 (by rw [Tt]; exact ⟨v_415, x_422, v_417, rfl, ⟨by omega, by omega⟩, ⟨by omega, by omega⟩⟩)
              have tq_427 := tp_eq h_425
              have hr_371 := hr_371.ext x_426 (py_ne_kind hr_371 hr_420 (by decide))
              refine lv_aload_n G0.1 G0.2.1 dX4_readUnit_80 rfl (lv_at hl 2 rfl) ?_
              refine lv_aload_n G0.1 G0.2.1 dX4_readUnit_81 rfl (lv_at hl 3 rfl) ?_
              refine lv_iconst (v := 2) G0.1 G0.2.1 dX4_readUnit_82 (by decide) ?_
              refine lv_iload_n G0.1 G0.2.1 dX4_readUnit_83 rfl (lv_at hl 4 rfl) ?_
              refine lv_iconst (v := 0) G0.1 G0.2.1 dX4_readUnit_84 (by decide) ?_
              refine py_calli hw (va_runV (As := [.ref t, .int 2, .int i, .int 0]) (rest := []) G0 (ih_chain2 L_393 f_423 H_424.size h t i 0 gb nb (rs_sk gb nb (rs_sm gb nb eb (rs_sk gb nb pb)).2 + 1) eb hWF Th Tt ⟨by omega, by omega⟩ (show wb ≤ i.toInt ∧ i.toInt ≤ 6 by omega) (show i.toInt = 6 - ((eb : Nat) : Int) by omega) (show tp_l f_423 t = nb ∧ tp_a f_423 t = (rs_sk gb nb (rs_sm gb nb eb (rs_sk gb nb pb)).2 + 1) by omega) (show 0 ≤ (rs_sk gb nb (rs_sm gb nb eb (rs_sk gb nb pb)).2 + 1) ∧ nb ≤ 160 by omega) hTB) (cwV 4 G0.2.2.2.2 g_X4_readUnit_X4_readChain_39 rfl rfl rfl (by decide +kernel) ⟨(show f_chain2 + 1 ≤ fr + 1 by omega), (show 8 + (9 + 11) + l_chain2 ≤ lo + 60 by omega)⟩) (py_preV hw (C := RX4) (T := TX4) (N := 1) rfl hr_371) rfl rfl hl.1 rfl (lv_room (Nat.le_of_ble_eq_true rfl)) dX4_readUnit_85 ⟨(Nat.le_of_ble_eq_true rfl), (Nat.le_of_ble_eq_true rfl)⟩) (fun r_432 L_428 f_429 H_430 locs hp_431 hw => ?_)
              obtain ⟨b_437, en_433, en_434, en_435, en_436, hWF, hq_438, kp_439⟩ := hp_431
              have hTB := (gfn_kp (kp_f kp_439 (wt_8 hG Tt) (by decide) (by decide) (fun _ => by decide))).trans hTB
              have hRP := hRP.trans hq_438
              have hKP := hKP.trans kp_439 (by decide) (by decide)
              have hr_371 := kp_at kp_439 hWF Th (by decide) (by decide) (by decide) hr_371
              refine lv_if_ne (tgt := 93) G0.1 G0.2.1 dX4_readUnit_88 (by decide) (fun c_440 => ?_) (fun c_440 => ?_)
              · skip
                have tc_440 := ti_ne c_440
                replace en_435 := en_435 (by omega)
                refine lv_aload_n G0.1 G0.2.1 dX4_readUnit_93 rfl (lv_at hl 2 rfl) ?_
                refine py_get (C := RX4) (T := TX4) (N := 1) (k := 0) (v := .ref r_369) G0 hw in_X4_readUnit_X4 rfl hr_371 (by decide) (by decide +kernel) rfl dX4_readUnit_94 ?_
                refine lv_iload G0.1 G0.2.1 dX4_readUnit_97 (lv_at hl 0 rfl) ?_
                refine lv_iconst (v := 0) G0.1 G0.2.1 dX4_readUnit_99 (by decide) ?_
                obtain ⟨t_441, t_442⟩ := wt_3 hG ty_370
                obtain ⟨v_443, hr_445, b_444⟩ := wg_3 hWF ty_370
                obtain ⟨v_446, v_447, v_448, hr_451, b_449, b_450⟩ := wg_8 hWF Tt
                have bv_448 := wf_free v_448
                have tq_452 := tp_eq hr_451
                refine py_callv hw (va_runV (As := [.int r_397, .int 0]) (rest := []) G0 (c_X3_add l E G L_428 f_429 H_430.size r_369 r_397 0 hG hWF ty_370) (cwV 2 G0.2.2.2.2 g_X4_readUnit_X3_add_46 rfl rfl rfl (by decide +kernel) ⟨(show 0 + 1 ≤ fr + 1 by omega), (show 8 + (3 + 11) + 0 ≤ lo + 60 by omega)⟩) (py_preV hw (C := RX3) (T := TX3) (N := 3) rfl hr_445) rfl rfl hl.1 rfl (lv_room (Nat.le_of_ble_eq_true rfl)) dX4_readUnit_100 ⟨(Nat.le_of_ble_eq_true rfl), (Nat.le_of_ble_eq_true rfl)⟩) (fun L_453 f_454 H_455 locs hp_456 hw => ?_)
                obtain ⟨hWF, hq_458, kp_459⟩ := hp_456
                have hTB := (gfn_kp (kp_f kp_459 (wt_8 hG Tt) (by decide) (by decide) (fun _ => by decide))).trans hTB
                have hRP := hRP.trans hq_458
                have hKP := hKP.trans kp_459 (by decide) (by decide)
                have hr_371 := kp_at kp_459 hWF Th (by decide) (by decide) (by decide) hr_371
                have hr_451 := kp_at kp_459 hWF Tt (by decide) (by decide) (by decide) hr_451
                have tq_460 := tp_eq hr_451
                refine lv_iconst (v := 1) G0.1 G0.2.1 dX4_readUnit_103 (by decide) ?_
                exact py_iret G0 hr rfl hlk hw ⟨⟨by omega, by omega⟩, (by first | omega | (intro q; omega)), (by first | omega | (intro q; omega)), (by first | omega | (intro q; omega)), (by first | exact rs_eqw ((rs_unb_0 (by omega)).trans ((rs_un_s (by omega) (by omega)).trans (rs_th_0 (by omega)))) (by omega) (by omega) | exact rs_eq ((rs_unb_0 (by omega)).trans ((rs_un_s (by omega) (by omega)).trans ((rs_th_1 (by omega)).trans (rs_cmp_0 (by omega))))) (by omega) (by omega) | exact rs_eqw ((rs_unb_0 (by omega)).trans ((rs_un_s (by omega) (by omega)).trans ((rs_th_1 (by omega)).trans (rs_cmp_1 (by omega))))) (by omega) (by omega)), hWF, hRP, hKP⟩ dX4_readUnit_104
              · skip
                have tc_440 := ti_eq c_440
                clear en_435
                refine lv_iconst (v := 0) G0.1 G0.2.1 dX4_readUnit_91 (by decide) ?_
                obtain ⟨v_461, v_462, v_463, hr_466, b_464, b_465⟩ := wg_8 hWF Tt
                have bv_463 := wf_free v_463
                have tq_467 := tp_eq hr_466
                exact py_iret G0 hr rfl hlk hw ⟨⟨by omega, by omega⟩, (by first | omega | (intro q; omega)), (by first | omega | (intro q; omega)), (by first | omega | (intro q; omega)), (by first | exact rs_eqw ((rs_unb_0 (by omega)).trans ((rs_un_s (by omega) (by omega)).trans (rs_th_0 (by omega)))) (by omega) (by omega) | exact rs_eq ((rs_unb_0 (by omega)).trans ((rs_un_s (by omega) (by omega)).trans ((rs_th_1 (by omega)).trans (rs_cmp_0 (by omega))))) (by omega) (by omega) | exact rs_eqw ((rs_unb_0 (by omega)).trans ((rs_un_s (by omega) (by omega)).trans ((rs_th_1 (by omega)).trans (rs_cmp_1 (by omega))))) (by omega) (by omega)), hWF, hRP, hKP⟩ dX4_readUnit_92
            · skip
              have tc_414 := ti_eq c_414
              clear en_410
              clear en_411
              replace en_412 := en_412 (by omega)
              refine lv_iconst (v := 0) G0.1 G0.2.1 dX4_readUnit_68 (by decide) ?_
              obtain ⟨v_468, v_469, v_470, hr_473, b_471, b_472⟩ := wg_8 hWF Tt
              have bv_470 := wf_free v_470
              have tq_474 := tp_eq hr_473
              exact py_iret G0 hr rfl hlk hw ⟨⟨by omega, by omega⟩, (by first | omega | (intro q; omega)), (by first | omega | (intro q; omega)), (by first | omega | (intro q; omega)), (by first | exact rs_eqw ((rs_unb_0 (by omega)).trans ((rs_un_s (by omega) (by omega)).trans (rs_th_0 (by omega)))) (by omega) (by omega) | exact rs_eq ((rs_unb_0 (by omega)).trans ((rs_un_s (by omega) (by omega)).trans ((rs_th_1 (by omega)).trans (rs_cmp_0 (by omega))))) (by omega) (by omega) | exact rs_eqw ((rs_unb_0 (by omega)).trans ((rs_un_s (by omega) (by omega)).trans ((rs_th_1 (by omega)).trans (rs_cmp_1 (by omega))))) (by omega) (by omega)), hWF, hRP, hKP⟩ dX4_readUnit_69
          · skip
            have tc_384 := ti_eq c_384
            clear en_379
            refine lv_iconst (v := 0) G0.1 G0.2.1 dX4_readUnit_52 (by decide) ?_
            have t_475 := wt_8 hG Tt
            obtain ⟨v_476, v_477, v_478, hr_481, b_479, b_480⟩ := wg_8 hWF Tt
            have bv_478 := wf_free v_478
            have tq_482 := tp_eq hr_481
            exact py_iret G0 hr rfl hlk hw ⟨⟨by omega, by omega⟩, (by first | omega | (intro q; omega)), (by first | omega | (intro q; omega)), (by first | omega | (intro q; omega)), (by first | exact rs_eqw ((rs_unb_0 (by omega)).trans ((rs_un_s (by omega) (by omega)).trans (rs_th_0 (by omega)))) (by omega) (by omega) | exact rs_eq ((rs_unb_0 (by omega)).trans ((rs_un_s (by omega) (by omega)).trans ((rs_th_1 (by omega)).trans (rs_cmp_0 (by omega))))) (by omega) (by omega) | exact rs_eqw ((rs_unb_0 (by omega)).trans ((rs_un_s (by omega) (by omega)).trans ((rs_th_1 (by omega)).trans (rs_cmp_1 (by omega))))) (by omega) (by omega)), hWF, hRP, hKP⟩ dX4_readUnit_53
      · skip
        exact absurd c_274 (by decide)
