set_option maxHeartbeats 4000000 in
set_option maxRecDepth 100000 in
theorem q_unit (l : Launch) (E : py_E) (G : wf_G) (hG : GT G) (wb : Int) (hwb : 0 ≤ wb) (fr lo : Nat) (hfr : 10 ≤ fr) (hlo : 300 ≤ lo) (f_unit l_unit : Nat) (x_unit : f_unit ≤ fr) (z_unit : l_unit ≤ lo) (ih_unit : Q_unit l E G (wb + 1) f_unit l_unit) (f_condition l_condition : Nat) (x_condition : f_condition ≤ fr) (z_condition : l_condition ≤ lo) (ih_condition : Q_condition l E G (wb + 1) f_condition l_condition) (f_sum l_sum : Nat) (x_sum : f_sum ≤ fr) (z_sum : l_sum ≤ lo) (ih_sum : Q_sum l E G wb f_sum l_sum) (f_compare l_compare : Nat) (x_compare : f_compare ≤ fr) (z_compare : l_compare ≤ lo) (ih_compare : Q_compare l E G wb f_compare l_compare) : Q_unit l E G wb (fr + 1) (lo + 60) := by
  intro L f sz u hWF Tu hp0
  refine Met.ofW (cc := cX12_unit) (maxL := 2) (ret := none) (by decide) rfl ?_
  intro p e s m args below meth c s₁ B hml hv
  obtain ⟨rfl, rfl, hw⟩ := py_start hv
  have G0 : CallFix p m c cX12_unit 2 s _ w_X12_unit RX12 := ⟨B.exec, B.bytes, hml, findClass_of_methodNamed B.named, atoms_spec (ws := w_X12_unit) B.pre⟩
  have hr := B.returns
  have hlk := B.notSynchronized
  have kcm1 : (-1 : Int32).toInt = -1 := rfl
  have kc0 : (0 : Int32).toInt = 0 := rfl
  have kc1 : (1 : Int32).toInt = 1 := rfl
  have kc9 : (9 : Int32).toInt = 9 := rfl
  have kc33 : (33 : Int32).toInt = 33 := rfl
  have kc40 : (40 : Int32).toInt = 40 := rfl
  have kc41 : (41 : Int32).toInt = 41 := rfl
  have hl := lv_entry ([.ref u]) (n := 2) (Nat.le_of_ble_eq_true rfl)
  rw [lg_entry_eq]
  generalize (lg_sl ([.ref u]) ++ List.replicate (2 - (lg_sl ([.ref u])).length) Slot.unset).toArray = ls at hl ⊢
  have hl : lv_has ls 2 [(0, .ref u)] := hl
  have hKP : KP G [41, 42, 43, 13] false f f := KP.refl
  have hFK : FK [3, 4, 5] f f u := FK.refl
  obtain ⟨v_1, v_2, v_3, v_4, v_5, v_6, v_7, v_8, v_9, v_10, v_11, v_12, y_13, v_14, v_15, v_16, v_17, v_18, y_19, v_20, y_21, v_22, hr_35, b_23, b_24, b_25, b_26, b_27, b_28, b_29, b_30, b_31, b_32, b_33, b_34⟩ := wg_12 hWF Tu
  have tq_36 := mi_row hr_35 2 rfl
  have tq_37 := mi_row hr_35 3 rfl
  have bv_3 := wf_free v_3
  have tq_38 := mi_row hr_35 4 rfl
  have bv_4 := wf_free v_4
  have tq_39 := mi_row hr_35 5 rfl
  have bv_5 := wf_free v_5
  have tq_40 := mi_row hr_35 14 rfl
  have hcd := cdv_rng hG hWF Tu (by omega) (by omega)
  have hTR : TR f f G u (18 - 2 * wb) 0 0 := TR.refl (by omega) (by omega)
  refine lv_aload_n G0.1 G0.2.1 dX12_unit_0 rfl (lv_at hl 0 rfl) ?_
  refine py_calli hw (va_runV (As := []) (rest := []) G0 (c_X12_look l E G L f s.heap.size u hG hWF Tu (show 0 ≤ mi f u 3 ∧ mi f u 3 ≤ mi f u 2 by omega)) (cwV 0 G0.2.2.2.2 g_X12_unit_X12_look_146 rfl rfl rfl (by decide +kernel) ⟨(show 1 + 1 ≤ fr + 1 by omega), (show 8 + (1 + 11) + 20 ≤ lo + 60 by omega)⟩) (py_preV hw (C := RX12) (T := TX12) (N := 54) rfl hr_35) rfl rfl hl.1 rfl (lv_room (Nat.le_of_ble_eq_true rfl)) dX12_unit_1 ⟨(Nat.le_of_ble_eq_true rfl), (Nat.le_of_ble_eq_true rfl)⟩) (fun r_45 L_41 f_42 H_43 locs hp_44 hw => ?_)
  obtain ⟨en_46, en_47, en_48, hWF, kp_49, fk_50⟩ := hp_44
  have cq_51 := cdv_k hG Tu kp_49 fk_50 (by decide)
  have hFK := hFK.trans fk_50 (by decide)
  have hKP := hKP.trans kp_49 (by decide) (by decide)
  obtain ⟨v_52, hr_53⟩ := fk_3 hWF Tu fk_50 hr_35
  have tq_54 := mi_row hr_53 2 rfl
  have tq_55 := mi_row hr_53 3 rfl
  have bv_52 := wf_free v_52
  have tq_56 := mi_row hr_53 4 rfl
  have bv_4 := wf_free v_4
  have tq_57 := mi_row hr_53 5 rfl
  have bv_5 := wf_free v_5
  have tq_58 := mi_row hr_53 14 rfl
  have hTR := hTR.kp hG Tu kp_49 fk_50 (by decide) (fun q => by omega)
  have br_45 := wf_free r_45
  refine lv_istore_n (lv' := [(1, .int r_45), (0, .ref u)]) G0.1 G0.2.1 dX12_unit_4 rfl hl (by decide) rfl (fun ls hl => ?_)
  refine lv_iload_n G0.1 G0.2.1 dX12_unit_5 rfl (lv_at hl 0 rfl) ?_
  refine lv_bipush (v := 33) G0.1 G0.2.1 dX12_unit_6 (by decide) ?_
  refine lv_icmp_ne (tgt := 47) G0.1 G0.2.1 dX12_unit_8 (by decide) (fun c_59 => ?_) (fun c_59 => ?_)
  · skip
    have tc_59 := ti_ne c_59
    refine lv_iload_n G0.1 G0.2.1 dX12_unit_47 rfl (lv_at hl 0 rfl) ?_
    refine lv_bipush (v := 40) G0.1 G0.2.1 dX12_unit_48 (by decide) ?_
    refine lv_icmp_ne (tgt := 78) G0.1 G0.2.1 dX12_unit_50 (by decide) (fun c_60 => ?_) (fun c_60 => ?_)
    · skip
      have tc_60 := ti_ne c_60
      refine lv_aload_n G0.1 G0.2.1 dX12_unit_78 rfl (lv_at hl 1 rfl) ?_
      refine py_callv hw (va_runV (As := []) (rest := []) G0 (ih_sum L_41 f_42 H_43.size u hWF Tu (show mi f_42 u 4 = -1 ∧ wb ≤ mi f_42 u 5 ∧ mi f_42 u 5 ≤ 6 ∧ 0 ≤ mi f_42 u 3 ∧ mi f_42 u 3 ≤ mi f_42 u 2 ∧ cdv f_42 G u ≤ mi f_42 u 3 by omega)) (cwV 0 G0.2.2.2.2 g_X12_unit_X12_sum_167 rfl rfl rfl (by decide +kernel) ⟨(show f_sum + 1 ≤ fr + 1 by omega), (show 8 + (2 + 11) + l_sum ≤ lo + 60 by omega)⟩) (py_preV hw (C := RX12) (T := TX12) (N := 54) rfl hr_53) rfl rfl hl.1 rfl (lv_room (Nat.le_of_ble_eq_true rfl)) dX12_unit_79 ⟨(Nat.le_of_ble_eq_true rfl), (Nat.le_of_ble_eq_true rfl)⟩) (fun L_61 f_62 H_63 locs hp_64 hw => ?_)
      obtain ⟨en_66, en_67, en_68, hWF, kp_69, fk_70⟩ := hp_64
      have hFK := hFK.trans fk_70 (by decide)
      have hKP := hKP.trans kp_69 (by decide) (by decide)
      obtain ⟨v_71, v_72, v_73, hr_74⟩ := fk_3_4_5 hWF Tu fk_70 hr_53
      have tq_75 := mi_row hr_74 2 rfl
      have tq_76 := mi_row hr_74 3 rfl
      have bv_71 := wf_free v_71
      have tq_77 := mi_row hr_74 4 rfl
      have bv_72 := wf_free v_72
      have tq_78 := mi_row hr_74 5 rfl
      have bv_73 := wf_free v_73
      have tq_79 := mi_row hr_74 14 rfl
      have hTR : TR f f_62 G u (18 - 2 * wb) 0 1 := hTR.trans (en_68.lift (b := 0) (by omega) (by omega) (by omega) (by omega)) (fun q => by omega)
      refine lv_aload_n G0.1 G0.2.1 dX12_unit_82 rfl (lv_at hl 1 rfl) ?_
      refine py_get (C := RX12) (T := TX12) (N := 54) (k := 4) (v := .int v_72) G0 hw in_X12_unit_X12 rfl hr_74 (by decide) (by decide +kernel) rfl dX12_unit_83 ?_
      refine lv_iconst (v := (-1)) G0.1 G0.2.1 dX12_unit_86 (by decide) ?_
      refine lv_icmp_ne (tgt := 94) G0.1 G0.2.1 dX12_unit_87 (by decide) (fun c_80 => ?_) (fun c_80 => ?_)
      · skip
        have tc_80 := ti_ne c_80
        clear en_67
        exact py_vret G0 hr hlk hw ⟨(by first | omega | (intro q; omega)), (by first | omega | (intro q; omega)), hTR, hWF, hKP, hFK⟩ dX12_unit_94
      · skip
        have tc_80 := ti_eq c_80
        replace en_67 := en_67 (by omega)
        refine lv_aload_n G0.1 G0.2.1 dX12_unit_90 rfl (lv_at hl 1 rfl) ?_
        refine py_callv hw (va_runV (As := []) (rest := []) G0 (ih_compare L_61 f_62 H_63.size u hWF Tu (show (mi f_62 u 4 = -1 → wb ≤ mi f_62 u 5 ∧ mi f_62 u 5 ≤ 6 ∧ mi f_62 u 3 ≤ mi f_62 u 2) ∧ 0 ≤ mi f_62 u 3 ∧ cdv f_62 G u ≤ mi f_62 u 3 by omega)) (cwV 0 G0.2.2.2.2 g_X12_unit_X12_compare_189 rfl rfl rfl (by decide +kernel) ⟨(show f_compare + 1 ≤ fr + 1 by omega), (show 8 + (2 + 11) + l_compare ≤ lo + 60 by omega)⟩) (py_preV hw (C := RX12) (T := TX12) (N := 54) rfl hr_74) rfl rfl hl.1 rfl (lv_room (Nat.le_of_ble_eq_true rfl)) dX12_unit_91 ⟨(Nat.le_of_ble_eq_true rfl), (Nat.le_of_ble_eq_true rfl)⟩) (fun L_81 f_82 H_83 locs hp_84 hw => ?_)
        obtain ⟨en_86, en_87, en_88, en_89, en_90, hWF, kp_91, fk_92⟩ := hp_84
        have hFK := hFK.trans fk_92 (by decide)
        have hKP := hKP.trans kp_91 (by decide) (by decide)
        obtain ⟨v_93, v_94, v_95, hr_96⟩ := fk_3_4_5 hWF Tu fk_92 hr_74
        have tq_97 := mi_row hr_96 2 rfl
        have tq_98 := mi_row hr_96 3 rfl
        have bv_93 := wf_free v_93
        have tq_99 := mi_row hr_96 4 rfl
        have bv_94 := wf_free v_94
        have tq_100 := mi_row hr_96 5 rfl
        have bv_95 := wf_free v_95
        have tq_101 := mi_row hr_96 14 rfl
        have hTR : TR f f_82 G u (18 - 2 * wb) 0 1 := hTR.trans (en_90.lift (b := 0) (by omega) (by omega) (by omega) (by omega)) (fun q => by omega)
        exact py_vret G0 hr hlk hw ⟨(by first | omega | (intro q; omega)), (by first | omega | (intro q; omega)), hTR, hWF, hKP, hFK⟩ dX12_unit_94
    · skip
      have tc_60 := ti_eq c_60
      replace en_47 := en_47 (by omega)
      refine lv_aload_n G0.1 G0.2.1 dX12_unit_53 rfl (lv_at hl 1 rfl) ?_
      refine py_callv hw (va_runV (As := []) (rest := []) G0 (c_X12_opens l E G L_41 f_42 H_43.size u hG hWF Tu (show 0 ≤ mi f_42 u 3 ∧ mi f_42 u 3 ≤ 1000 ∧ 0 ≤ mi f_42 u 5 ∧ mi f_42 u 5 ≤ 6 by omega)) (cwV 0 G0.2.2.2.2 g_X12_unit_X12_opens_164 rfl rfl rfl (by decide +kernel) ⟨(show 1 + 1 ≤ fr + 1 by omega), (show 8 + (1 + 11) + 20 ≤ lo + 60 by omega)⟩) (py_preV hw (C := RX12) (T := TX12) (N := 54) rfl hr_53) rfl rfl hl.1 rfl (lv_room (Nat.le_of_ble_eq_true rfl)) dX12_unit_54 ⟨(Nat.le_of_ble_eq_true rfl), (Nat.le_of_ble_eq_true rfl)⟩) (fun L_102 f_103 H_104 locs hp_105 hw => ?_)
      obtain ⟨en_107, en_108, en_109, en_110, hWF, kp_111, fk_112⟩ := hp_105
      have cq_113 := cdv_k hG Tu kp_111 fk_112 (by decide)
      have hFK := hFK.trans fk_112 (by decide)
      have hKP := hKP.trans kp_111 (by decide) (by decide)
      obtain ⟨v_114, v_115, v_116, hr_117⟩ := fk_3_4_5 hWF Tu fk_112 hr_53
      have tq_118 := mi_row hr_117 2 rfl
      have tq_119 := mi_row hr_117 3 rfl
      have bv_114 := wf_free v_114
      have tq_120 := mi_row hr_117 4 rfl
      have bv_115 := wf_free v_115
      have tq_121 := mi_row hr_117 5 rfl
      have bv_116 := wf_free v_116
      have tq_122 := mi_row hr_117 14 rfl
      have hTR := hTR.kp hG Tu kp_111 fk_112 (by decide) (fun q => by omega)
      refine lv_aload_n G0.1 G0.2.1 dX12_unit_57 rfl (lv_at hl 1 rfl) ?_
      refine py_get (C := RX12) (T := TX12) (N := 54) (k := 4) (v := .int v_115) G0 hw in_X12_unit_X12 rfl hr_117 (by decide) (by decide +kernel) rfl dX12_unit_58 ?_
      refine lv_iconst (v := (-1)) G0.1 G0.2.1 dX12_unit_61 (by decide) ?_
      refine lv_icmp_ne (tgt := 94) G0.1 G0.2.1 dX12_unit_62 (by decide) (fun c_123 => ?_) (fun c_123 => ?_)
      · skip
        have tc_123 := ti_ne c_123
        exact py_vret G0 hr hlk hw ⟨(by first | omega | (intro q; omega)), (by first | omega | (intro q; omega)), (hTR.wrong (by omega)), hWF, hKP, hFK⟩ dX12_unit_94
      · skip
        have tc_123 := ti_eq c_123
        refine lv_aload_n G0.1 G0.2.1 dX12_unit_65 rfl (lv_at hl 1 rfl) ?_
        refine py_callv hw (va_runV (As := []) (rest := []) G0 (ih_condition L_102 f_103 H_104.size u hWF Tu (show mi f_103 u 4 = -1 ∧ (wb + 1) ≤ mi f_103 u 5 ∧ mi f_103 u 5 ≤ 6 ∧ 0 ≤ mi f_103 u 3 ∧ mi f_103 u 3 ≤ mi f_103 u 2 ∧ cdv f_103 G u ≤ mi f_103 u 3 by omega)) (cwV 0 G0.2.2.2.2 g_X12_unit_X12_condition_186 rfl rfl rfl (by decide +kernel) ⟨(show f_condition + 1 ≤ fr + 1 by omega), (show 8 + (1 + 11) + l_condition ≤ lo + 60 by omega)⟩) (py_preV hw (C := RX12) (T := TX12) (N := 54) rfl hr_117) rfl rfl hl.1 rfl (lv_room (Nat.le_of_ble_eq_true rfl)) dX12_unit_66 ⟨(Nat.le_of_ble_eq_true rfl), (Nat.le_of_ble_eq_true rfl)⟩) (fun L_124 f_125 H_126 locs hp_127 hw => ?_)
        obtain ⟨en_129, en_130, en_131, hWF, kp_132, fk_133⟩ := hp_127
        have hFK := hFK.trans fk_133 (by decide)
        have hKP := hKP.trans kp_132 (by decide) (by decide)
        obtain ⟨v_134, v_135, v_136, hr_137⟩ := fk_3_4_5 hWF Tu fk_133 hr_117
        have tq_138 := mi_row hr_137 2 rfl
        have tq_139 := mi_row hr_137 3 rfl
        have bv_134 := wf_free v_134
        have tq_140 := mi_row hr_137 4 rfl
        have bv_135 := wf_free v_135
        have tq_141 := mi_row hr_137 5 rfl
        have bv_136 := wf_free v_136
        have tq_142 := mi_row hr_137 14 rfl
        have hTR : TR f f_125 G u (18 - 2 * wb) 0 1 := hTR.trans (en_131.lift (b := 0) (by omega) (by omega) (by omega) (by omega)) (fun q => by omega)
        refine lv_aload_n G0.1 G0.2.1 dX12_unit_69 rfl (lv_at hl 1 rfl) ?_
        refine lv_bipush (v := 41) G0.1 G0.2.1 dX12_unit_70 (by decide) ?_
        refine py_callv hw (va_runV (As := [.int 41]) (rest := []) G0 (c_X12_closes l E G L_124 f_125 H_126.size u 41 hG hWF Tu (show 0 ≤ mi f_125 u 3 ∧ mi f_125 u 3 ≤ 1000 ∧ (41 : Int32).toInt ≠ -1 by omega) (show mi f_125 u 4 = -1 → mi f_125 u 3 ≤ mi f_125 u 2 by omega)) (cwV 1 G0.2.2.2.2 g_X12_unit_X12_closes_170 rfl rfl rfl (by decide +kernel) ⟨(show 2 + 1 ≤ fr + 1 by omega), (show 8 + (2 + 11) + 40 ≤ lo + 60 by omega)⟩) (py_preV hw (C := RX12) (T := TX12) (N := 54) rfl hr_137) rfl rfl hl.1 rfl (lv_room (Nat.le_of_ble_eq_true rfl)) dX12_unit_72 ⟨(Nat.le_of_ble_eq_true rfl), (Nat.le_of_ble_eq_true rfl)⟩) (fun L_143 f_144 H_145 locs hp_146 hw => ?_)
        obtain ⟨en_148, en_149, en_150, en_151, en_152, hWF, kp_153, fk_154⟩ := hp_146
        have cq_155 := cdv_k hG Tu kp_153 fk_154 (by decide)
        have hFK := hFK.trans fk_154 (by decide)
        have hKP := hKP.trans kp_153 (by decide) (by decide)
        obtain ⟨v_156, v_157, v_158, hr_159⟩ := fk_3_4_5 hWF Tu fk_154 hr_137
        have tq_160 := mi_row hr_159 2 rfl
        have tq_161 := mi_row hr_159 3 rfl
        have bv_156 := wf_free v_156
        have tq_162 := mi_row hr_159 4 rfl
        have bv_157 := wf_free v_157
        have tq_163 := mi_row hr_159 5 rfl
        have bv_158 := wf_free v_158
        have tq_164 := mi_row hr_159 14 rfl
        have hTR := hTR.kp hG Tu kp_153 fk_154 (by decide) (fun q => by omega)
        refine lv_goto (tgt := 94) G0.1 G0.2.1 dX12_unit_75 (by decide) ?_
        exact py_vret G0 hr hlk hw ⟨(by first | omega | (intro q; omega)), (by first | omega | (intro q; omega)), hTR, hWF, hKP, hFK⟩ dX12_unit_94
  · skip
    have tc_59 := ti_eq c_59
    replace en_47 := en_47 (by omega)
    refine lv_aload_n G0.1 G0.2.1 dX12_unit_11 rfl (lv_at hl 1 rfl) ?_
    refine py_callv hw (va_runV (As := []) (rest := []) G0 (c_X12_opens l E G L_41 f_42 H_43.size u hG hWF Tu (show 0 ≤ mi f_42 u 3 ∧ mi f_42 u 3 ≤ 1000 ∧ 0 ≤ mi f_42 u 5 ∧ mi f_42 u 5 ≤ 6 by omega)) (cwV 0 G0.2.2.2.2 g_X12_unit_X12_opens_164 rfl rfl rfl (by decide +kernel) ⟨(show 1 + 1 ≤ fr + 1 by omega), (show 8 + (1 + 11) + 20 ≤ lo + 60 by omega)⟩) (py_preV hw (C := RX12) (T := TX12) (N := 54) rfl hr_53) rfl rfl hl.1 rfl (lv_room (Nat.le_of_ble_eq_true rfl)) dX12_unit_12 ⟨(Nat.le_of_ble_eq_true rfl), (Nat.le_of_ble_eq_true rfl)⟩) (fun L_165 f_166 H_167 locs hp_168 hw => ?_)
    obtain ⟨en_170, en_171, en_172, en_173, hWF, kp_174, fk_175⟩ := hp_168
    have cq_176 := cdv_k hG Tu kp_174 fk_175 (by decide)
    have hFK := hFK.trans fk_175 (by decide)
    have hKP := hKP.trans kp_174 (by decide) (by decide)
    obtain ⟨v_177, v_178, v_179, hr_180⟩ := fk_3_4_5 hWF Tu fk_175 hr_53
    have tq_181 := mi_row hr_180 2 rfl
    have tq_182 := mi_row hr_180 3 rfl
    have bv_177 := wf_free v_177
    have tq_183 := mi_row hr_180 4 rfl
    have bv_178 := wf_free v_178
    have tq_184 := mi_row hr_180 5 rfl
    have bv_179 := wf_free v_179
    have tq_185 := mi_row hr_180 14 rfl
    have hTR := hTR.kp hG Tu kp_174 fk_175 (by decide) (fun q => by omega)
    refine lv_aload_n G0.1 G0.2.1 dX12_unit_15 rfl (lv_at hl 1 rfl) ?_
    refine py_get (C := RX12) (T := TX12) (N := 54) (k := 4) (v := .int v_178) G0 hw in_X12_unit_X12 rfl hr_180 (by decide) (by decide +kernel) rfl dX12_unit_16 ?_
    refine lv_iconst (v := (-1)) G0.1 G0.2.1 dX12_unit_19 (by decide) ?_
    refine lv_icmp_ne (tgt := 94) G0.1 G0.2.1 dX12_unit_20 (by decide) (fun c_186 => ?_) (fun c_186 => ?_)
    · skip
      have tc_186 := ti_ne c_186
      exact py_vret G0 hr hlk hw ⟨(by first | omega | (intro q; omega)), (by first | omega | (intro q; omega)), (hTR.wrong (by omega)), hWF, hKP, hFK⟩ dX12_unit_94
    · skip
      have tc_186 := ti_eq c_186
      refine lv_aload_n G0.1 G0.2.1 dX12_unit_23 rfl (lv_at hl 1 rfl) ?_
      refine py_callv hw (va_runV (As := []) (rest := []) G0 (ih_unit L_165 f_166 H_167.size u hWF Tu (show mi f_166 u 4 = -1 ∧ (wb + 1) ≤ mi f_166 u 5 ∧ mi f_166 u 5 ≤ 6 ∧ 0 ≤ mi f_166 u 3 ∧ mi f_166 u 3 ≤ mi f_166 u 2 ∧ cdv f_166 G u ≤ mi f_166 u 3 by omega)) (cwV 0 G0.2.2.2.2 g_X12_unit_X12_unit_183 rfl rfl rfl (by decide +kernel) ⟨(show f_unit + 1 ≤ fr + 1 by omega), (show 8 + (2 + 11) + l_unit ≤ lo + 60 by omega)⟩) (py_preV hw (C := RX12) (T := TX12) (N := 54) rfl hr_180) rfl rfl hl.1 rfl (lv_room (Nat.le_of_ble_eq_true rfl)) dX12_unit_24 ⟨(Nat.le_of_ble_eq_true rfl), (Nat.le_of_ble_eq_true rfl)⟩) (fun L_187 f_188 H_189 locs hp_190 hw => ?_)
      obtain ⟨en_192, en_193, en_194, hWF, kp_195, fk_196⟩ := hp_190
      have hFK := hFK.trans fk_196 (by decide)
      have hKP := hKP.trans kp_195 (by decide) (by decide)
      obtain ⟨v_197, v_198, v_199, hr_200⟩ := fk_3_4_5 hWF Tu fk_196 hr_180
      have tq_201 := mi_row hr_200 2 rfl
      have tq_202 := mi_row hr_200 3 rfl
      have bv_197 := wf_free v_197
      have tq_203 := mi_row hr_200 4 rfl
      have bv_198 := wf_free v_198
      have tq_204 := mi_row hr_200 5 rfl
      have bv_199 := wf_free v_199
      have tq_205 := mi_row hr_200 14 rfl
      have hTR : TR f f_188 G u (18 - 2 * wb) 0 1 := hTR.trans (en_194.lift (b := 0) (by omega) (by omega) (by omega) (by omega)) (fun q => by omega)
      refine lv_aload_n G0.1 G0.2.1 dX12_unit_27 rfl (lv_at hl 1 rfl) ?_
      refine lv_bipush (v := 9) G0.1 G0.2.1 dX12_unit_28 (by decide) ?_
      refine lv_iconst (v := 0) G0.1 G0.2.1 dX12_unit_30 (by decide) ?_
      refine py_callv hw (va_runV (As := [.int 9, .int 0]) (rest := []) G0 (c_X12_put l E G L_187 f_188 H_189.size u 9 0 hG hWF Tu (show cdv f_188 G u ≤ 339 by omega)) (cwV 2 G0.2.2.2.2 g_X12_unit_X12_put_156 rfl rfl rfl (by decide +kernel) ⟨(show 0 + 1 ≤ fr + 1 by omega), (show 8 + (3 + 11) + 0 ≤ lo + 60 by omega)⟩) (py_preV hw (C := RX12) (T := TX12) (N := 54) rfl hr_200) rfl rfl hl.1 rfl (lv_room (Nat.le_of_ble_eq_true rfl)) dX12_unit_31 ⟨(Nat.le_of_ble_eq_true rfl), (Nat.le_of_ble_eq_true rfl)⟩) (fun L_206 f_207 H_208 locs hp_209 hw => ?_)
      obtain ⟨en_211, en_212, hWF, kp_213, fk_214⟩ := hp_209
      have en_211 : PT f_188 f_207 G u (9 : Int32) (0 : Int32) := en_211
      have hFK := hFK.trans fk_214 (by decide)
      have hKP := hKP.trans kp_213 (by decide) (by decide)
      have hr_200 := kp_at kp_213 hWF Tu (by decide) (by decide) (by decide) hr_200
      have tq_215 := mi_row hr_200 2 rfl
      have tq_216 := mi_row hr_200 3 rfl
      have bv_197 := wf_free v_197
      have tq_217 := mi_row hr_200 4 rfl
      have bv_198 := wf_free v_198
      have tq_218 := mi_row hr_200 5 rfl
      have bv_199 := wf_free v_199
      have tq_219 := mi_row hr_200 14 rfl
      have hTR : TR f f_207 G u (18 - 2 * wb) 0 1 := hTR.trans (en_211.tr (by omega)) (fun q => by omega)
      refine lv_aload_n G0.1 G0.2.1 dX12_unit_34 rfl (lv_at hl 1 rfl) ?_
      refine lv_dup G0.1 G0.2.1 dX12_unit_35 rfl ?_
      refine py_get (C := RX12) (T := TX12) (N := 54) (k := 5) (v := .int v_199) G0 hw in_X12_unit_X12 rfl hr_200 (by decide) (by decide +kernel) rfl dX12_unit_36 ?_
      refine lv_iconst (v := 1) G0.1 G0.2.1 dX12_unit_39 (by decide) ?_
      refine lv_isub G0.1 G0.2.1 dX12_unit_40 ?_
      refine lv_topi (fun x_220 ex_220 => ?_)
      first | have tx_220 := ti_sub ex_220 (by omega -splitDisjunctions) (by omega -splitDisjunctions) | skip
      have tdd : mi f_207 u 4 = -1 → x_220.toInt = mi f_207 u 5 - 1 := fun q => by have tz := ti_sub ex_220 (by omega) (by omega); omega
      refine py_put (C := RX12) (T := TX12) (N := 54) (k := 5) (v := .int x_220) (fs' := [.int v_1, .ref (G.2 u 1), .int v_2, .int v_197, .int v_198, .int x_220, .ref (G.2 u 6), .ref (G.2 u 7), .ref (G.2 u 8), .ref (G.2 u 9), .ref (G.2 u 10), .ref (G.2 u 11), .ref (G.2 u 12), .int v_6, .int v_7, .ref (G.2 u 15), .ref (G.2 u 16), .ref (G.2 u 17), .ref (G.2 u 18), .int v_8, .int v_9, .ref (G.2 u 21), .ref (G.2 u 22), .ref (G.2 u 23), .int v_10, .int v_11, .ref (G.2 u 26), .ref (G.2 u 27), .ref (G.2 u 28), .int v_12, .long y_13, .int v_14, .int v_15, .int v_16, .int v_17, .ref (G.2 u 35), .ref (G.2 u 36), .ref (G.2 u 37), .ref (G.2 u 38), .ref (G.2 u 39), .ref (G.2 u 40), .ref (G.2 u 41), .ref (G.2 u 42), .int v_18, .ref (G.2 u 44), .ref (G.2 u 45), .ref (G.2 u 46), .ref (G.2 u 47), .long y_19, .ref (G.2 u 49), .ref (G.2 u 50), .int v_20, .long y_21, .int v_22]) (ty0 := tyX12) G0 hw tyX12_ok nmX12 in_X12_unit_X12 rfl hr_200 (by decide) (by decide +kernel) rfl rfl rfl rfl (Nat.le_of_ble_eq_true rfl) rfl dX12_unit_41 (fun f_221 H_222 locs h_223 x_224 hw => ?_)
      have hFK := hFK.put hr_200 h_223 5 (by decide) rfl
      have cq_225 := cdv_own (f1 := f_207) (f2 := f_221) hG hWF Tu x_224 (by have z1 := mi_row hr_200 14 rfl; have z2 := mi_row h_223 14 rfl; omega)
      have hTR := hTR.own hG hWF Tu x_224 (by have z1 := mi_row hr_200 14 rfl; have z2 := mi_row h_223 14 rfl; omega) (by intro q; have z1 := mi_row hr_200 4 rfl; have z2 := mi_row h_223 4 rfl; omega)
      have hKP := hKP.upd hWF x_224 Tu (Or.inl (by decide))
      have hWF := wf_upd hWF h_223 x_224 (by rw [Tu]; exact ⟨v_1, v_2, v_197, v_198, x_220, v_6, v_7, v_8, v_9, v_10, v_11, v_12, y_13, v_14, v_15, v_16, v_17, v_18, y_19, v_20, y_21, v_22, rfl, ⟨by omega, by omega⟩, ⟨by omega, by omega⟩, ⟨by omega, by omega⟩, ⟨by omega, by omega⟩, ⟨by omega, by omega⟩, ⟨by omega, by omega⟩, ⟨by omega, by omega⟩, ⟨by omega, by omega⟩, ⟨by omega, by omega⟩, ⟨by omega, by omega⟩, ⟨by omega, by omega⟩, ⟨by omega, by omega⟩⟩)
      have tq_226 := mi_row h_223 2 rfl
      have tq_227 := mi_row h_223 3 rfl
      have bv_197 := wf_free v_197
      have tq_228 := mi_row h_223 4 rfl
      have bv_198 := wf_free v_198
      have tq_229 := mi_row h_223 5 rfl
      have bx_220 := wf_free x_220
      have tq_230 := mi_row h_223 14 rfl
      refine lv_goto (tgt := 94) G0.1 G0.2.1 dX12_unit_44 (by decide) ?_
      exact py_vret G0 hr hlk hw ⟨(by first | omega | (intro q; omega)), (by first | omega | (intro q; omega)), hTR, hWF, hKP, hFK⟩ dX12_unit_94
