set_option maxHeartbeats 4000000 in
set_option maxRecDepth 100000 in
theorem q_unit (l : Launch) (E : py_E) (G : wf_G) (hG : GT G) (wb : Int) (hwb : 0 ≤ wb) (fr lo : Nat) (hfr : 10 ≤ fr) (hlo : 300 ≤ lo) (f_unit l_unit : Nat) (x_unit : f_unit ≤ fr) (z_unit : l_unit ≤ lo) (ih_unit : Q_unit l E G (wb + 1) f_unit l_unit) (f_condition l_condition : Nat) (x_condition : f_condition ≤ fr) (z_condition : l_condition ≤ lo) (ih_condition : Q_condition l E G (wb + 1) f_condition l_condition) (f_sum l_sum : Nat) (x_sum : f_sum ≤ fr) (z_sum : l_sum ≤ lo) (ih_sum : Q_sum l E G wb f_sum l_sum) (f_compare l_compare : Nat) (x_compare : f_compare ≤ fr) (z_compare : l_compare ≤ lo) (ih_compare : Q_compare l E G wb f_compare l_compare) : Q_unit l E G wb (fr + 1) (lo + 60) := by
  intro L f sz u gb nb pb eb hWF Tu hp0 hp1 hp2 hq0
  refine Met.ofW (cc := cX12_unit) (maxL := 2) (ret := none) (by decide) rfl ?_
  intro p e s m args below meth c s₁ B hml hv
  obtain ⟨rfl, rfl, hw⟩ := py_start hv
  have G0 : CallFix p m c cX12_unit 2 s _ w_X12_unit RX12 := ⟨B.exec, B.bytes, hml, findClass_of_methodNamed B.named, atoms_spec (ws := w_X12_unit) B.pre⟩
  have hr := B.returns
  have hlk := B.notSynchronized
  have kcm1 : (-1 : Int32).toInt = -1 := rfl
  have kc0 : (0 : Int32).toInt = 0 := rfl
  have kc1 : (1 : Int32).toInt = 1 := rfl
  have kc9 : (9 : Int32).toInt = 9 := rfl
  have kc33 : (33 : Int32).toInt = 33 := rfl
  have kc40 : (40 : Int32).toInt = 40 := rfl
  have kc41 : (41 : Int32).toInt = 41 := rfl
  have hl := lv_entry ([.ref u]) (n := 2) (Nat.le_of_ble_eq_true rfl)
  rw [lg_entry_eq]
  generalize (lg_sl ([.ref u]) ++ List.replicate (2 - (lg_sl ([.ref u])).length) Slot.unset).toArray = ls at hl ⊢
  have hl : lv_has ls 2 [(0, .ref u)] := hl
  have hKP : KP G [41, 42, 43, 13] false f f := KP.refl
  have hFK : FK [3, 4, 5] f f u := FK.refl
  have hMB := hq0
  obtain ⟨v_1, v_2, v_3, v_4, v_5, v_6, v_7, v_8, v_9, v_10, v_11, v_12, y_13, v_14, v_15, v_16, v_17, v_18, y_19, v_20, y_21, v_22, hr_35, b_23, b_24, b_25, b_26, b_27, b_28, b_29, b_30, b_31, b_32, b_33, b_34⟩ := wg_12 hWF Tu
  have tq_36 := mi_row hr_35 2 rfl
  have tq_37 := mi_row hr_35 3 rfl
  have bv_3 := wf_free v_3
  have tq_38 := mi_row hr_35 4 rfl
  have bv_4 := wf_free v_4
  have tq_39 := mi_row hr_35 5 rfl
  have bv_5 := wf_free v_5
  have tq_40 := mi_row hr_35 14 rfl
  have hcd := cdv_rng hG hWF Tu (by omega) (by omega)
  have hTR : TR f f G u (18 - 2 * wb) 0 0 := TR.refl (by omega) (by omega)
  refine lv_aload_n G0.1 G0.2.1 dX12_unit_0 rfl (lv_at hl 0 rfl) ?_
  refine py_calli hw (va_runV (As := []) (rest := []) G0 (c_X12_look l E G L f s.heap.size u gb nb pb hG hWF Tu (show 0 ≤ mi f u 3 ∧ mi f u 3 ≤ mi f u 2 by omega) (show mi f u 3 = pb by omega) (show mi f u 2 = nb ∧ 0 ≤ pb by omega) hMB) (cwV 0 G0.2.2.2.2 g_X12_unit_X12_look_146 rfl rfl rfl (by decide +kernel) ⟨(show 1 + 1 ≤ fr + 1 by omega), (show 8 + (1 + 11) + 20 ≤ lo + 60 by omega)⟩) (py_preV hw (C := RX12) (T := TX12) (N := 54) rfl hr_35) rfl rfl hl.1 rfl (lv_room (Nat.le_of_ble_eq_true rfl)) dX12_unit_1 ⟨(Nat.le_of_ble_eq_true rfl), (Nat.le_of_ble_eq_true rfl)⟩) (fun r_45 L_41 f_42 H_43 locs hp_44 hw => ?_)
  obtain ⟨en_46, en_47, en_48, en_49, hWF, kp_50, fk_51⟩ := hp_44
  have hMB := hMB.kp (kp_f kp_50 (wt12_1 hG Tu) (by decide) (by decide) (fun _ => by decide))
  have cq_52 := cdv_k hG Tu kp_50 fk_51 (by decide)
  have hFK := hFK.trans fk_51 (by decide)
  have hKP := hKP.trans kp_50 (by decide) (by decide)
  obtain ⟨v_53, hr_54⟩ := fk_3 hWF Tu fk_51 hr_35
  have tq_55 := mi_row hr_54 2 rfl
  have tq_56 := mi_row hr_54 3 rfl
  have bv_53 := wf_free v_53
  have tq_57 := mi_row hr_54 4 rfl
  have bv_4 := wf_free v_4
  have tq_58 := mi_row hr_54 5 rfl
  have bv_5 := wf_free v_5
  have tq_59 := mi_row hr_54 14 rfl
  have hTR := hTR.kp hG Tu kp_50 fk_51 (by decide) (fun q => by omega)
  have br_45 := wf_free r_45
  refine lv_istore_n (lv' := [(1, .int r_45), (0, .ref u)]) G0.1 G0.2.1 dX12_unit_4 rfl hl (by decide) rfl (fun ls hl => ?_)
  refine lv_iload_n G0.1 G0.2.1 dX12_unit_5 rfl (lv_at hl 0 rfl) ?_
  refine lv_bipush (v := 33) G0.1 G0.2.1 dX12_unit_6 (by decide) ?_
  refine lv_icmp_ne (tgt := 47) G0.1 G0.2.1 dX12_unit_8 (by decide) (fun c_60 => ?_) (fun c_60 => ?_)
  · skip
    have tc_60 := ti_ne c_60
    refine lv_iload_n G0.1 G0.2.1 dX12_unit_47 rfl (lv_at hl 0 rfl) ?_
    refine lv_bipush (v := 40) G0.1 G0.2.1 dX12_unit_48 (by decide) ?_
    refine lv_icmp_ne (tgt := 78) G0.1 G0.2.1 dX12_unit_50 (by decide) (fun c_61 => ?_) (fun c_61 => ?_)
    · skip
      have tc_61 := ti_ne c_61
      have hu1 : rs_v gb nb (rs_sk gb nb pb) ≠ 33 := by omega
      have hu2 : rs_v gb nb (rs_sk gb nb pb) ≠ 40 := by omega
      refine lv_aload_n G0.1 G0.2.1 dX12_unit_78 rfl (lv_at hl 1 rfl) ?_
      refine py_callv hw (va_runV (As := []) (rest := []) G0 (ih_sum L_41 f_42 H_43.size u gb nb (rs_sk gb nb pb) eb hWF Tu (show mi f_42 u 4 = -1 ∧ wb ≤ mi f_42 u 5 ∧ mi f_42 u 5 ≤ 6 ∧ 0 ≤ mi f_42 u 3 ∧ mi f_42 u 3 ≤ mi f_42 u 2 ∧ cdv f_42 G u ≤ mi f_42 u 3 by omega) (show mi f_42 u 2 = nb ∧ mi f_42 u 3 = (rs_sk gb nb pb) by omega) (show mi f_42 u 5 = 6 - ((eb : Nat) : Int) by omega) hMB) (cwV 0 G0.2.2.2.2 g_X12_unit_X12_sum_167 rfl rfl rfl (by decide +kernel) ⟨(show f_sum + 1 ≤ fr + 1 by omega), (show 8 + (2 + 11) + l_sum ≤ lo + 60 by omega)⟩) (py_preV hw (C := RX12) (T := TX12) (N := 54) rfl hr_54) rfl rfl hl.1 rfl (lv_room (Nat.le_of_ble_eq_true rfl)) dX12_unit_79 ⟨(Nat.le_of_ble_eq_true rfl), (Nat.le_of_ble_eq_true rfl)⟩) (fun L_62 f_63 H_64 locs hp_65 hw => ?_)
      obtain ⟨en_67, en_68, en_69, en_70, en_71, hWF, kp_72, fk_73⟩ := hp_65
      have hMB := hMB.kp (kp_f kp_72 (wt12_1 hG Tu) (by decide) (by decide) (fun _ => by decide))
      have hFK := hFK.trans fk_73 (by decide)
      have hKP := hKP.trans kp_72 (by decide) (by decide)
      obtain ⟨v_74, v_75, v_76, hr_77⟩ := fk_3_4_5 hWF Tu fk_73 hr_54
      have tq_78 := mi_row hr_77 2 rfl
      have tq_79 := mi_row hr_77 3 rfl
      have bv_74 := wf_free v_74
      have tq_80 := mi_row hr_77 4 rfl
      have bv_75 := wf_free v_75
      have tq_81 := mi_row hr_77 5 rfl
      have bv_76 := wf_free v_76
      have tq_82 := mi_row hr_77 14 rfl
      have hTR : TR f f_63 G u (18 - 2 * wb) 0 1 := hTR.trans (en_69.lift (b := 0) (by omega) (by omega) (by omega) (by omega)) (fun q => by omega)
      refine lv_aload_n G0.1 G0.2.1 dX12_unit_82 rfl (lv_at hl 1 rfl) ?_
      refine py_get (C := RX12) (T := TX12) (N := 54) (k := 4) (v := .int v_75) G0 hw in_X12_unit_X12 rfl hr_77 (by decide) (by decide +kernel) rfl dX12_unit_83 ?_
      refine lv_iconst (v := (-1)) G0.1 G0.2.1 dX12_unit_86 (by decide) ?_
      refine lv_icmp_ne (tgt := 94) G0.1 G0.2.1 dX12_unit_87 (by decide) (fun c_83 => ?_) (fun c_83 => ?_)
      · skip
        have tc_83 := ti_ne c_83
        clear en_68
        clear en_70
        replace en_71 := en_71 (by omega)
        exact py_vret G0 hr hlk hw ⟨(by first | omega | (intro q; omega)), (by first | omega | (intro q; omega)), hTR, (fun hw => absurd hw (by omega)), (by intro hw; have hE : (rs_un gb nb eb pb) = (rs_sm gb nb eb (rs_sk gb nb pb)) := (rs_un_s hu1 hu2).trans (rs_th_0 en_71.1); rw [hE]; exact ⟨by omega, by omega⟩), hWF, hKP, hFK⟩ dX12_unit_94
      · skip
        have tc_83 := ti_eq c_83
        replace en_68 := en_68 (by omega)
        replace en_70 := en_70 (by omega)
        clear en_71
        refine lv_aload_n G0.1 G0.2.1 dX12_unit_90 rfl (lv_at hl 1 rfl) ?_
        refine py_callv hw (va_runV (As := []) (rest := []) G0 (ih_compare L_62 f_63 H_64.size u gb nb eb (rs_sm gb nb eb (rs_sk gb nb pb)).2 hWF Tu (show mi f_63 u 4 = -1 ∧ wb ≤ mi f_63 u 5 ∧ mi f_63 u 5 ≤ 6 ∧ 0 ≤ mi f_63 u 3 ∧ mi f_63 u 3 ≤ mi f_63 u 2 ∧ cdv f_63 G u ≤ mi f_63 u 3 by omega) (show mi f_63 u 2 = nb ∧ mi f_63 u 3 = (rs_sm gb nb eb (rs_sk gb nb pb)).2 by omega) (show mi f_63 u 5 = 6 - ((eb : Nat) : Int) by omega) hMB) (cwV 0 G0.2.2.2.2 g_X12_unit_X12_compare_189 rfl rfl rfl (by decide +kernel) ⟨(show f_compare + 1 ≤ fr + 1 by omega), (show 8 + (2 + 11) + l_compare ≤ lo + 60 by omega)⟩) (py_preV hw (C := RX12) (T := TX12) (N := 54) rfl hr_77) rfl rfl hl.1 rfl (lv_room (Nat.le_of_ble_eq_true rfl)) dX12_unit_91 ⟨(Nat.le_of_ble_eq_true rfl), (Nat.le_of_ble_eq_true rfl)⟩) (fun L_84 f_85 H_86 locs hp_87 hw => ?_)
        obtain ⟨en_89, en_90, en_91, en_92, en_93, en_94, en_95, hWF, kp_96, fk_97⟩ := hp_87
        have hMB := hMB.kp (kp_f kp_96 (wt12_1 hG Tu) (by decide) (by decide) (fun _ => by decide))
        have hFK := hFK.trans fk_97 (by decide)
        have hKP := hKP.trans kp_96 (by decide) (by decide)
        obtain ⟨v_98, v_99, v_100, hr_101⟩ := fk_3_4_5 hWF Tu fk_97 hr_77
        have tq_102 := mi_row hr_101 2 rfl
        have tq_103 := mi_row hr_101 3 rfl
        have bv_98 := wf_free v_98
        have tq_104 := mi_row hr_101 4 rfl
        have bv_99 := wf_free v_99
        have tq_105 := mi_row hr_101 5 rfl
        have bv_100 := wf_free v_100
        have tq_106 := mi_row hr_101 14 rfl
        have hTR : TR f f_85 G u (18 - 2 * wb) 0 1 := hTR.trans (en_93.lift (b := 0) (by omega) (by omega) (by omega) (by omega)) (fun q => by omega)
        have hRM : ∀ _ : Unit, _ ∧ _ := fun _ => ⟨en_94, en_95⟩
        clear en_94 en_95
        exact py_vret G0 hr hlk hw ⟨(by first | omega | (intro q; omega)), (by first | omega | (intro q; omega)), hTR, (by intro hw; have hz := (hRM ()).1 (by omega); have hE : (rs_un gb nb eb pb) = (rs_cmp gb nb eb (rs_sm gb nb eb (rs_sk gb nb pb)).2) := (rs_un_s hu1 hu2).trans (rs_th_1 en_70.1); rw [hE]; exact ⟨hz.1, by omega⟩), (by intro hw; have hz := (hRM ()).2 (by omega); have hE : (rs_un gb nb eb pb) = (rs_cmp gb nb eb (rs_sm gb nb eb (rs_sk gb nb pb)).2) := (rs_un_s hu1 hu2).trans (rs_th_1 en_70.1); rw [hE]; exact ⟨hz.1, by omega⟩), hWF, hKP, hFK⟩ dX12_unit_94
    · skip
      have tc_61 := ti_eq c_61
      replace en_47 := en_47 (by omega)
      have hu : rs_v gb nb (rs_sk gb nb pb) = 40 := by omega
      refine lv_aload_n G0.1 G0.2.1 dX12_unit_53 rfl (lv_at hl 1 rfl) ?_
      refine py_callv hw (va_runV (As := []) (rest := []) G0 (c_X12_opens l E G L_41 f_42 H_43.size u hG hWF Tu (show 0 ≤ mi f_42 u 3 ∧ mi f_42 u 3 ≤ 1000 ∧ 0 ≤ mi f_42 u 5 ∧ mi f_42 u 5 ≤ 6 by omega)) (cwV 0 G0.2.2.2.2 g_X12_unit_X12_opens_164 rfl rfl rfl (by decide +kernel) ⟨(show 1 + 1 ≤ fr + 1 by omega), (show 8 + (1 + 11) + 20 ≤ lo + 60 by omega)⟩) (py_preV hw (C := RX12) (T := TX12) (N := 54) rfl hr_54) rfl rfl hl.1 rfl (lv_room (Nat.le_of_ble_eq_true rfl)) dX12_unit_54 ⟨(Nat.le_of_ble_eq_true rfl), (Nat.le_of_ble_eq_true rfl)⟩) (fun L_107 f_108 H_109 locs hp_110 hw => ?_)
      obtain ⟨en_112, en_113, en_114, en_115, hWF, kp_116, fk_117⟩ := hp_110
      have hMB := hMB.kp (kp_f kp_116 (wt12_1 hG Tu) (by decide) (by decide) (fun _ => by decide))
      have cq_118 := cdv_k hG Tu kp_116 fk_117 (by decide)
      have hFK := hFK.trans fk_117 (by decide)
      have hKP := hKP.trans kp_116 (by decide) (by decide)
      obtain ⟨v_119, v_120, v_121, hr_122⟩ := fk_3_4_5 hWF Tu fk_117 hr_54
      have tq_123 := mi_row hr_122 2 rfl
      have tq_124 := mi_row hr_122 3 rfl
      have bv_119 := wf_free v_119
      have tq_125 := mi_row hr_122 4 rfl
      have bv_120 := wf_free v_120
      have tq_126 := mi_row hr_122 5 rfl
      have bv_121 := wf_free v_121
      have tq_127 := mi_row hr_122 14 rfl
      have hTR := hTR.kp hG Tu kp_116 fk_117 (by decide) (fun q => by omega)
      refine lv_aload_n G0.1 G0.2.1 dX12_unit_57 rfl (lv_at hl 1 rfl) ?_
      refine py_get (C := RX12) (T := TX12) (N := 54) (k := 4) (v := .int v_120) G0 hw in_X12_unit_X12 rfl hr_122 (by decide) (by decide +kernel) rfl dX12_unit_58 ?_
      refine lv_iconst (v := (-1)) G0.1 G0.2.1 dX12_unit_61 (by decide) ?_
      refine lv_icmp_ne (tgt := 94) G0.1 G0.2.1 dX12_unit_62 (by decide) (fun c_128 => ?_) (fun c_128 => ?_)
      · skip
        have tc_128 := ti_ne c_128
        exact py_vret G0 hr hlk hw ⟨(by first | omega | (intro q; omega)), (by first | omega | (intro q; omega)), (hTR.wrong (by omega)), (fun hw => absurd hw (by omega)), (by intro hw; have hE : (rs_un gb nb eb pb) = (0, rs_sk gb nb pb) := rs_un_b0 (by first | exact Or.inl hu | exact Or.inr hu) (by omega); rw [hE]; exact ⟨rfl, (show mi f_108 u 4 = rs_sk gb nb pb by omega)⟩), hWF, hKP, hFK⟩ dX12_unit_94
      · skip
        have tc_128 := ti_eq c_128
        have heb : 1 ≤ ((eb : Nat) : Int) := by omega
        refine lv_aload_n G0.1 G0.2.1 dX12_unit_65 rfl (lv_at hl 1 rfl) ?_
        refine py_callv hw (va_runV (As := []) (rest := []) G0 (ih_condition L_107 f_108 H_109.size u gb nb (rs_sk gb nb pb + 1) (eb - 1) hWF Tu (show mi f_108 u 4 = -1 ∧ (wb + 1) ≤ mi f_108 u 5 ∧ mi f_108 u 5 ≤ 6 ∧ 0 ≤ mi f_108 u 3 ∧ mi f_108 u 3 ≤ mi f_108 u 2 ∧ cdv f_108 G u ≤ mi f_108 u 3 by omega) (show mi f_108 u 2 = nb ∧ mi f_108 u 3 = (rs_sk gb nb pb + 1) by omega) (show mi f_108 u 5 = 6 - (((eb - 1) : Nat) : Int) by omega) hMB) (cwV 0 G0.2.2.2.2 g_X12_unit_X12_condition_186 rfl rfl rfl (by decide +kernel) ⟨(show f_condition + 1 ≤ fr + 1 by omega), (show 8 + (1 + 11) + l_condition ≤ lo + 60 by omega)⟩) (py_preV hw (C := RX12) (T := TX12) (N := 54) rfl hr_122) rfl rfl hl.1 rfl (lv_room (Nat.le_of_ble_eq_true rfl)) dX12_unit_66 ⟨(Nat.le_of_ble_eq_true rfl), (Nat.le_of_ble_eq_true rfl)⟩) (fun L_129 f_130 H_131 locs hp_132 hw => ?_)
        obtain ⟨en_134, en_135, en_136, en_137, en_138, hWF, kp_139, fk_140⟩ := hp_132
        have hMB := hMB.kp (kp_f kp_139 (wt12_1 hG Tu) (by decide) (by decide) (fun _ => by decide))
        have hFK := hFK.trans fk_140 (by decide)
        have hKP := hKP.trans kp_139 (by decide) (by decide)
        obtain ⟨v_141, v_142, v_143, hr_144⟩ := fk_3_4_5 hWF Tu fk_140 hr_122
        have tq_145 := mi_row hr_144 2 rfl
        have tq_146 := mi_row hr_144 3 rfl
        have bv_141 := wf_free v_141
        have tq_147 := mi_row hr_144 4 rfl
        have bv_142 := wf_free v_142
        have tq_148 := mi_row hr_144 5 rfl
        have bv_143 := wf_free v_143
        have tq_149 := mi_row hr_144 14 rfl
        have hTR : TR f f_130 G u (18 - 2 * wb) 0 1 := hTR.trans (en_136.lift (b := 0) (by omega) (by omega) (by omega) (by omega)) (fun q => by omega)
        refine lv_aload_n G0.1 G0.2.1 dX12_unit_69 rfl (lv_at hl 1 rfl) ?_
        refine lv_bipush (v := 41) G0.1 G0.2.1 dX12_unit_70 (by decide) ?_
        refine py_callv hw (va_runV (As := [.int 41]) (rest := []) G0 (c_X12_closes l E G L_129 f_130 H_131.size u 41 gb nb (rs_cd gb nb (eb - 1) (rs_sk gb nb pb + 1)).2 hG hWF Tu (show 0 ≤ mi f_130 u 3 ∧ mi f_130 u 3 ≤ 1000 ∧ (41 : Int32).toInt ≠ -1 ∧ (41 : Int32).toInt ≠ 0 by omega) (show mi f_130 u 4 = -1 → mi f_130 u 3 ≤ mi f_130 u 2 ∧ mi f_130 u 3 = (rs_cd gb nb (eb - 1) (rs_sk gb nb pb + 1)).2 by omega) (show mi f_130 u 2 = nb by omega) hMB) (cwV 1 G0.2.2.2.2 g_X12_unit_X12_closes_170 rfl rfl rfl (by decide +kernel) ⟨(show 2 + 1 ≤ fr + 1 by omega), (show 8 + (2 + 11) + 40 ≤ lo + 60 by omega)⟩) (py_preV hw (C := RX12) (T := TX12) (N := 54) rfl hr_144) rfl rfl hl.1 rfl (lv_room (Nat.le_of_ble_eq_true rfl)) dX12_unit_72 ⟨(Nat.le_of_ble_eq_true rfl), (Nat.le_of_ble_eq_true rfl)⟩) (fun L_150 f_151 H_152 locs hp_153 hw => ?_)
        obtain ⟨en_155, en_156, en_157, en_158, en_159, en_160, en_161, hWF, kp_162, fk_163⟩ := hp_153
        have en_160 : mi f_151 u 4 = -1 → mi f_130 u 4 = -1 ∧ rs_v gb nb (rs_sk gb nb (rs_cd gb nb (eb - 1) (rs_sk gb nb pb + 1)).2) = (41 : Int) ∧ mi f_151 u 3 = rs_sk gb nb (rs_cd gb nb (eb - 1) (rs_sk gb nb pb + 1)).2 + 1 := en_160
        have en_161 : mi f_151 u 4 ≠ -1 → (mi f_130 u 4 = -1 ∧ rs_v gb nb (rs_sk gb nb (rs_cd gb nb (eb - 1) (rs_sk gb nb pb + 1)).2) ≠ (41 : Int) ∧ mi f_151 u 4 = rs_sk gb nb (rs_cd gb nb (eb - 1) (rs_sk gb nb pb + 1)).2) ∨ (mi f_130 u 4 ≠ -1 ∧ mi f_151 u 4 = mi f_130 u 4) := en_161
        have hMB := hMB.kp (kp_f kp_162 (wt12_1 hG Tu) (by decide) (by decide) (fun _ => by decide))
        have cq_164 := cdv_k hG Tu kp_162 fk_163 (by decide)
        have hFK := hFK.trans fk_163 (by decide)
        have hKP := hKP.trans kp_162 (by decide) (by decide)
        obtain ⟨v_165, v_166, v_167, hr_168⟩ := fk_3_4_5 hWF Tu fk_163 hr_144
        have tq_169 := mi_row hr_168 2 rfl
        have tq_170 := mi_row hr_168 3 rfl
        have bv_165 := wf_free v_165
        have tq_171 := mi_row hr_168 4 rfl
        have bv_166 := wf_free v_166
        have tq_172 := mi_row hr_168 5 rfl
        have bv_167 := wf_free v_167
        have tq_173 := mi_row hr_168 14 rfl
        have hTR := hTR.kp hG Tu kp_162 fk_163 (by decide) (fun q => by omega)
        refine lv_goto (tgt := 94) G0.1 G0.2.1 dX12_unit_75 (by decide) ?_
        exact py_vret G0 hr hlk hw ⟨(by first | omega | (intro q; omega)), (by first | omega | (intro q; omega)), hTR, (by intro hw; obtain ⟨z1, z2, z3⟩ := en_160 hw; obtain ⟨y1, y2⟩ := en_137 z1; have hE : (rs_un gb nb eb pb) = (1, (rs_sk gb nb (rs_cd gb nb (eb - 1) (rs_sk gb nb pb + 1)).2) + 1) := (rs_un_p hu heb).trans (rs_cl_1 y1 z2); rw [hE]; exact ⟨(show (1 : Int) ≠ 0 by decide), z3⟩), (by intro hw; rcases en_161 hw with ⟨z1, z2, z3⟩ | ⟨z1, z2⟩; (obtain ⟨y1, y2⟩ := en_137 z1; have hE : (rs_un gb nb eb pb) = (0, (rs_sk gb nb (rs_cd gb nb (eb - 1) (rs_sk gb nb pb + 1)).2)) := (rs_un_p hu heb).trans (rs_cl_e y1 z2); rw [hE]; exact ⟨rfl, z3⟩); (obtain ⟨y1, y2⟩ := en_138 z1; have hE : (rs_un gb nb eb pb) = (rs_cd gb nb (eb - 1) (rs_sk gb nb pb + 1)) := (rs_un_p hu heb).trans (rs_cl_0 y1); rw [hE]; exact ⟨y1, z2.trans y2⟩)), hWF, hKP, hFK⟩ dX12_unit_94
  · skip
    have tc_60 := ti_eq c_60
    replace en_47 := en_47 (by omega)
    have hu : rs_v gb nb (rs_sk gb nb pb) = 33 := by omega
    refine lv_aload_n G0.1 G0.2.1 dX12_unit_11 rfl (lv_at hl 1 rfl) ?_
    refine py_callv hw (va_runV (As := []) (rest := []) G0 (c_X12_opens l E G L_41 f_42 H_43.size u hG hWF Tu (show 0 ≤ mi f_42 u 3 ∧ mi f_42 u 3 ≤ 1000 ∧ 0 ≤ mi f_42 u 5 ∧ mi f_42 u 5 ≤ 6 by omega)) (cwV 0 G0.2.2.2.2 g_X12_unit_X12_opens_164 rfl rfl rfl (by decide +kernel) ⟨(show 1 + 1 ≤ fr + 1 by omega), (show 8 + (1 + 11) + 20 ≤ lo + 60 by omega)⟩) (py_preV hw (C := RX12) (T := TX12) (N := 54) rfl hr_54) rfl rfl hl.1 rfl (lv_room (Nat.le_of_ble_eq_true rfl)) dX12_unit_12 ⟨(Nat.le_of_ble_eq_true rfl), (Nat.le_of_ble_eq_true rfl)⟩) (fun L_174 f_175 H_176 locs hp_177 hw => ?_)
    obtain ⟨en_179, en_180, en_181, en_182, hWF, kp_183, fk_184⟩ := hp_177
    have hMB := hMB.kp (kp_f kp_183 (wt12_1 hG Tu) (by decide) (by decide) (fun _ => by decide))
    have cq_185 := cdv_k hG Tu kp_183 fk_184 (by decide)
    have hFK := hFK.trans fk_184 (by decide)
    have hKP := hKP.trans kp_183 (by decide) (by decide)
    obtain ⟨v_186, v_187, v_188, hr_189⟩ := fk_3_4_5 hWF Tu fk_184 hr_54
    have tq_190 := mi_row hr_189 2 rfl
    have tq_191 := mi_row hr_189 3 rfl
    have bv_186 := wf_free v_186
    have tq_192 := mi_row hr_189 4 rfl
    have bv_187 := wf_free v_187
    have tq_193 := mi_row hr_189 5 rfl
    have bv_188 := wf_free v_188
    have tq_194 := mi_row hr_189 14 rfl
    have hTR := hTR.kp hG Tu kp_183 fk_184 (by decide) (fun q => by omega)
    refine lv_aload_n G0.1 G0.2.1 dX12_unit_15 rfl (lv_at hl 1 rfl) ?_
    refine py_get (C := RX12) (T := TX12) (N := 54) (k := 4) (v := .int v_187) G0 hw in_X12_unit_X12 rfl hr_189 (by decide) (by decide +kernel) rfl dX12_unit_16 ?_
    refine lv_iconst (v := (-1)) G0.1 G0.2.1 dX12_unit_19 (by decide) ?_
    refine lv_icmp_ne (tgt := 94) G0.1 G0.2.1 dX12_unit_20 (by decide) (fun c_195 => ?_) (fun c_195 => ?_)
    · skip
      have tc_195 := ti_ne c_195
      exact py_vret G0 hr hlk hw ⟨(by first | omega | (intro q; omega)), (by first | omega | (intro q; omega)), (hTR.wrong (by omega)), (fun hw => absurd hw (by omega)), (by intro hw; have hE : (rs_un gb nb eb pb) = (0, rs_sk gb nb pb) := rs_un_b0 (by first | exact Or.inl hu | exact Or.inr hu) (by omega); rw [hE]; exact ⟨rfl, (show mi f_175 u 4 = rs_sk gb nb pb by omega)⟩), hWF, hKP, hFK⟩ dX12_unit_94
    · skip
      have tc_195 := ti_eq c_195
      have heb : 1 ≤ ((eb : Nat) : Int) := by omega
      refine lv_aload_n G0.1 G0.2.1 dX12_unit_23 rfl (lv_at hl 1 rfl) ?_
      refine py_callv hw (va_runV (As := []) (rest := []) G0 (ih_unit L_174 f_175 H_176.size u gb nb (rs_sk gb nb pb + 1) (eb - 1) hWF Tu (show mi f_175 u 4 = -1 ∧ (wb + 1) ≤ mi f_175 u 5 ∧ mi f_175 u 5 ≤ 6 ∧ 0 ≤ mi f_175 u 3 ∧ mi f_175 u 3 ≤ mi f_175 u 2 ∧ cdv f_175 G u ≤ mi f_175 u 3 by omega) (show mi f_175 u 2 = nb ∧ mi f_175 u 3 = (rs_sk gb nb pb + 1) by omega) (show mi f_175 u 5 = 6 - (((eb - 1) : Nat) : Int) by omega) hMB) (cwV 0 G0.2.2.2.2 g_X12_unit_X12_unit_183 rfl rfl rfl (by decide +kernel) ⟨(show f_unit + 1 ≤ fr + 1 by omega), (show 8 + (2 + 11) + l_unit ≤ lo + 60 by omega)⟩) (py_preV hw (C := RX12) (T := TX12) (N := 54) rfl hr_189) rfl rfl hl.1 rfl (lv_room (Nat.le_of_ble_eq_true rfl)) dX12_unit_24 ⟨(Nat.le_of_ble_eq_true rfl), (Nat.le_of_ble_eq_true rfl)⟩) (fun L_196 f_197 H_198 locs hp_199 hw => ?_)
      obtain ⟨en_201, en_202, en_203, en_204, en_205, hWF, kp_206, fk_207⟩ := hp_199
      have hMB := hMB.kp (kp_f kp_206 (wt12_1 hG Tu) (by decide) (by decide) (fun _ => by decide))
      have hFK := hFK.trans fk_207 (by decide)
      have hKP := hKP.trans kp_206 (by decide) (by decide)
      obtain ⟨v_208, v_209, v_210, hr_211⟩ := fk_3_4_5 hWF Tu fk_207 hr_189
      have tq_212 := mi_row hr_211 2 rfl
      have tq_213 := mi_row hr_211 3 rfl
      have bv_208 := wf_free v_208
      have tq_214 := mi_row hr_211 4 rfl
      have bv_209 := wf_free v_209
      have tq_215 := mi_row hr_211 5 rfl
      have bv_210 := wf_free v_210
      have tq_216 := mi_row hr_211 14 rfl
      have hTR : TR f f_197 G u (18 - 2 * wb) 0 1 := hTR.trans (en_203.lift (b := 0) (by omega) (by omega) (by omega) (by omega)) (fun q => by omega)
      have hRM : ∀ _ : Unit, _ ∧ _ := fun _ => ⟨en_204, en_205⟩
      clear en_204 en_205
      refine lv_aload_n G0.1 G0.2.1 dX12_unit_27 rfl (lv_at hl 1 rfl) ?_
      refine lv_bipush (v := 9) G0.1 G0.2.1 dX12_unit_28 (by decide) ?_
      refine lv_iconst (v := 0) G0.1 G0.2.1 dX12_unit_30 (by decide) ?_
      refine py_callv hw (va_runV (As := [.int 9, .int 0]) (rest := []) G0 (c_X12_put l E G L_196 f_197 H_198.size u 9 0 hG hWF Tu (show cdv f_197 G u ≤ 339 by omega)) (cwV 2 G0.2.2.2.2 g_X12_unit_X12_put_156 rfl rfl rfl (by decide +kernel) ⟨(show 0 + 1 ≤ fr + 1 by omega), (show 8 + (3 + 11) + 0 ≤ lo + 60 by omega)⟩) (py_preV hw (C := RX12) (T := TX12) (N := 54) rfl hr_211) rfl rfl hl.1 rfl (lv_room (Nat.le_of_ble_eq_true rfl)) dX12_unit_31 ⟨(Nat.le_of_ble_eq_true rfl), (Nat.le_of_ble_eq_true rfl)⟩) (fun L_217 f_218 H_219 locs hp_220 hw => ?_)
      obtain ⟨en_222, en_223, hWF, kp_224, fk_225⟩ := hp_220
      have en_222 : PT f_197 f_218 G u (9 : Int32) (0 : Int32) := en_222
      have hMB := hMB.kp (kp_f kp_224 (wt12_1 hG Tu) (by decide) (by decide) (fun _ => by decide))
      have hFK := hFK.trans fk_225 (by decide)
      have hKP := hKP.trans kp_224 (by decide) (by decide)
      have hr_211 := kp_at kp_224 hWF Tu (by decide) (by decide) (by decide) hr_211
      have tq_226 := mi_row hr_211 2 rfl
      have tq_227 := mi_row hr_211 3 rfl
      have bv_208 := wf_free v_208
      have tq_228 := mi_row hr_211 4 rfl
      have bv_209 := wf_free v_209
      have tq_229 := mi_row hr_211 5 rfl
      have bv_210 := wf_free v_210
      have tq_230 := mi_row hr_211 14 rfl
      have hTR : TR f f_218 G u (18 - 2 * wb) 0 1 := hTR.trans (en_222.tr (by omega)) (fun q => by omega)
      refine lv_aload_n G0.1 G0.2.1 dX12_unit_34 rfl (lv_at hl 1 rfl) ?_
      refine lv_dup G0.1 G0.2.1 dX12_unit_35 rfl ?_
      refine py_get (C := RX12) (T := TX12) (N := 54) (k := 5) (v := .int v_210) G0 hw in_X12_unit_X12 rfl hr_211 (by decide) (by decide +kernel) rfl dX12_unit_36 ?_
      refine lv_iconst (v := 1) G0.1 G0.2.1 dX12_unit_39 (by decide) ?_
      refine lv_isub G0.1 G0.2.1 dX12_unit_40 ?_
      refine lv_topi (fun x_231 ex_231 => ?_)
      first | have tx_231 := ti_sub ex_231 (by omega -splitDisjunctions) (by omega -splitDisjunctions) | skip
      have tdd : mi f_218 u 4 = -1 → x_231.toInt = mi f_218 u 5 - 1 := fun q => by have tz := ti_sub ex_231 (by omega) (by omega); omega
      refine py_put (C := RX12) (T := TX12) (N := 54) (k := 5) (v := .int x_231) (fs' := [.int v_1, .ref (G.2 u 1), .int v_2, .int v_208, .int v_209, .int x_231, .ref (G.2 u 6), .ref (G.2 u 7), .ref (G.2 u 8), .ref (G.2 u 9), .ref (G.2 u 10), .ref (G.2 u 11), .ref (G.2 u 12), .int v_6, .int v_7, .ref (G.2 u 15), .ref (G.2 u 16), .ref (G.2 u 17), .ref (G.2 u 18), .int v_8, .int v_9, .ref (G.2 u 21), .ref (G.2 u 22), .ref (G.2 u 23), .int v_10, .int v_11, .ref (G.2 u 26), .ref (G.2 u 27), .ref (G.2 u 28), .int v_12, .long y_13, .int v_14, .int v_15, .int v_16, .int v_17, .ref (G.2 u 35), .ref (G.2 u 36), .ref (G.2 u 37), .ref (G.2 u 38), .ref (G.2 u 39), .ref (G.2 u 40), .ref (G.2 u 41), .ref (G.2 u 42), .int v_18, .ref (G.2 u 44), .ref (G.2 u 45), .ref (G.2 u 46), .ref (G.2 u 47), .long y_19, .ref (G.2 u 49), .ref (G.2 u 50), .int v_20, .long y_21, .int v_22]) (ty0 := tyX12) G0 hw tyX12_ok nmX12 in_X12_unit_X12 rfl hr_211 (by decide) (by decide +kernel) rfl rfl rfl rfl (Nat.le_of_ble_eq_true rfl) rfl dX12_unit_41 (fun f_232 H_233 locs h_234 x_235 hw => ?_)
      have hMB := hMB.kp (kp_f (KP.refl.upd hWF x_235 Tu (Or.inl (by decide)) : KP G [13] false f_218 f_232) (wt12_1 hG Tu) (by decide) (by decide) (fun _ => by decide))
      have hFK := hFK.put hr_211 h_234 5 (by decide) rfl
      have cq_236 := cdv_own (f1 := f_218) (f2 := f_232) hG hWF Tu x_235 (by have z1 := mi_row hr_211 14 rfl; have z2 := mi_row h_234 14 rfl; omega)
      have hTR := hTR.own hG hWF Tu x_235 (by have z1 := mi_row hr_211 14 rfl; have z2 := mi_row h_234 14 rfl; omega) (by intro q; have z1 := mi_row hr_211 4 rfl; have z2 := mi_row h_234 4 rfl; omega)
      have hKP := hKP.upd hWF x_235 Tu (Or.inl (by decide))
      have hWF := wf_upd hWF h_234 x_235 (by rw [Tu]; exact ⟨v_1, v_2, v_208, v_209, x_231, v_6, v_7, v_8, v_9, v_10, v_11, v_12, y_13, v_14, v_15, v_16, v_17, v_18, y_19, v_20, y_21, v_22, rfl, ⟨by omega, by omega⟩, ⟨by omega, by omega⟩, ⟨by omega, by omega⟩, ⟨by omega, by omega⟩, ⟨by omega, by omega⟩, ⟨by omega, by omega⟩, ⟨by omega, by omega⟩, ⟨by omega, by omega⟩, ⟨by omega, by omega⟩, ⟨by omega, by omega⟩, ⟨by omega, by omega⟩, ⟨by omega, by omega⟩⟩)
      have tq_237 := mi_row h_234 2 rfl
      have tq_238 := mi_row h_234 3 rfl
      have bv_208 := wf_free v_208
      have tq_239 := mi_row h_234 4 rfl
      have bv_209 := wf_free v_209
      have tq_240 := mi_row h_234 5 rfl
      have bx_231 := wf_free x_231
      have tq_241 := mi_row h_234 14 rfl
      refine lv_goto (tgt := 94) G0.1 G0.2.1 dX12_unit_44 (by decide) ?_
      exact py_vret G0 hr hlk hw ⟨(by first | omega | (intro q; omega)), (by first | omega | (intro q; omega)), hTR, (by intro hw; have hz := (hRM ()).1 (by omega); have hE : (rs_un gb nb eb pb) = (rs_un gb nb (eb - 1) (rs_sk gb nb pb + 1)) := rs_un_n hu heb; rw [hE]; exact ⟨hz.1, by omega⟩), (by intro hw; have hz := (hRM ()).2 (by omega); have hE : (rs_un gb nb eb pb) = (rs_un gb nb (eb - 1) (rs_sk gb nb pb + 1)) := rs_un_n hu heb; rw [hE]; exact ⟨hz.1, by omega⟩), hWF, hKP, hFK⟩ dX12_unit_94
