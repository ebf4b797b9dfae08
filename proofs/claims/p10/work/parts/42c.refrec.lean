set_option maxHeartbeats 4000000 in
set_option maxRecDepth 100000 in
theorem q_sum (l : Launch) (E : py_E) (G : wf_G) (hG : GT G) (wb : Int) (hwb : 0 ≤ wb) (fr lo : Nat) (hfr : 10 ≤ fr) (hlo : 300 ≤ lo) (f_term l_term : Nat) (x_term : f_term ≤ fr) (z_term : l_term ≤ lo) (ih_term : Q_term l E G wb f_term l_term) : Q_sum l E G wb (fr + 1) (lo + 60) := by
  intro L f sz u hWF Tu hp0
  refine Met.ofW (cc := cX12_sum) (maxL := 2) (ret := none) (by decide) rfl ?_
  intro p e s m args below meth c s₁ B hml hv
  obtain ⟨rfl, rfl, hw⟩ := py_start hv
  have G0 : CallFix p m c cX12_sum 2 s _ w_X12_sum RX12 := ⟨B.exec, B.bytes, hml, findClass_of_methodNamed B.named, atoms_spec (ws := w_X12_sum) B.pre⟩
  have hr := B.returns
  have hlk := B.notSynchronized
  have kcm1 : (-1 : Int32).toInt = -1 := rfl
  have kc0 : (0 : Int32).toInt = 0 := rfl
  have kc1 : (1 : Int32).toInt = 1 := rfl
  have kc2 : (2 : Int32).toInt = 2 := rfl
  have kc3 : (3 : Int32).toInt = 3 := rfl
  have kc43 : (43 : Int32).toInt = 43 := rfl
  have kc45 : (45 : Int32).toInt = 45 := rfl
  have hl := lv_entry ([.ref u]) (n := 2) (Nat.le_of_ble_eq_true rfl)
  rw [lg_entry_eq]
  generalize (lg_sl ([.ref u]) ++ List.replicate (2 - (lg_sl ([.ref u])).length) Slot.unset).toArray = ls at hl ⊢
  have hl : lv_has ls 2 [(0, .ref u)] := hl
  have hKP : KP G [41, 42, 43, 13] false f f := KP.refl
  have hFK : FK [3, 4, 5] f f u := FK.refl
  obtain ⟨v_1, v_2, v_3, v_4, v_5, v_6, v_7, v_8, v_9, v_10, v_11, v_12, y_13, v_14, v_15, v_16, v_17, v_18, y_19, v_20, y_21, v_22, hr_35, b_23, b_24, b_25, b_26, b_27, b_28, b_29, b_30, b_31, b_32, b_33, b_34⟩ := wg_12 hWF Tu
  have tq_36 := mi_row hr_35 2 rfl
  have tq_37 := mi_row hr_35 3 rfl
  have bv_3 := wf_free v_3
  have tq_38 := mi_row hr_35 4 rfl
  have bv_4 := wf_free v_4
  have tq_39 := mi_row hr_35 5 rfl
  have bv_5 := wf_free v_5
  have tq_40 := mi_row hr_35 14 rfl
  have hcd := cdv_rng hG hWF Tu (by omega) (by omega)
  have hTR : TR f f G u (15 - 2 * wb) 0 0 := TR.refl (by omega) (by omega)
  refine lv_aload_n G0.1 G0.2.1 dX12_sum_0 rfl (lv_at hl 0 rfl) ?_
  refine py_callv hw (va_runV (As := []) (rest := []) G0 (ih_term L f s.heap.size u hWF Tu (show mi f u 4 = -1 ∧ wb ≤ mi f u 5 ∧ mi f u 5 ≤ 6 ∧ 0 ≤ mi f u 3 ∧ mi f u 3 ≤ mi f u 2 ∧ cdv f G u ≤ mi f u 3 by omega)) (cwV 0 G0.2.2.2.2 g_X12_sum_X12_term_177 rfl rfl rfl (by decide +kernel) ⟨(show f_term + 1 ≤ fr + 1 by omega), (show 8 + (2 + 11) + l_term ≤ lo + 60 by omega)⟩) (py_preV hw (C := RX12) (T := TX12) (N := 54) rfl hr_35) rfl rfl hl.1 rfl (lv_room (Nat.le_of_ble_eq_true rfl)) dX12_sum_1 ⟨(Nat.le_of_ble_eq_true rfl), (Nat.le_of_ble_eq_true rfl)⟩) (fun L_41 f_42 H_43 locs hp_44 hw => ?_)
  obtain ⟨en_46, en_47, en_48, hWF, kp_49, fk_50⟩ := hp_44
  have hFK := hFK.trans fk_50 (by decide)
  have hKP := hKP.trans kp_49 (by decide) (by decide)
  obtain ⟨v_51, v_52, v_53, hr_54⟩ := fk_3_4_5 hWF Tu fk_50 hr_35
  have tq_55 := mi_row hr_54 2 rfl
  have tq_56 := mi_row hr_54 3 rfl
  have bv_51 := wf_free v_51
  have tq_57 := mi_row hr_54 4 rfl
  have bv_52 := wf_free v_52
  have tq_58 := mi_row hr_54 5 rfl
  have bv_53 := wf_free v_53
  have tq_59 := mi_row hr_54 14 rfl
  have hTR : TR f f_42 G u (15 - 2 * wb) 0 1 := hTR.trans (en_48.lift (b := 0) (by omega) (by omega) (by omega) (by omega)) (fun q => by omega)
  refine lv_aload_n G0.1 G0.2.1 dX12_sum_4 rfl (lv_at hl 0 rfl) ?_
  refine py_get (C := RX12) (T := TX12) (N := 54) (k := 4) (v := .int v_52) G0 hw in_X12_sum_X12 rfl hr_54 (by decide) (by decide +kernel) rfl dX12_sum_5 ?_
  refine lv_iconst (v := (-1)) G0.1 G0.2.1 dX12_sum_8 (by decide) ?_
  refine lv_icmp_ne (tgt := 19) G0.1 G0.2.1 dX12_sum_9 (by decide) (fun c_60 => ?_) (fun c_60 => ?_)
  · skip
    have tc_60 := ti_ne c_60
    clear en_47
    refine lv_iconst (v := (-1)) G0.1 G0.2.1 dX12_sum_19 (by decide) ?_
    refine lv_istore_n (lv' := [(1, .int (-1)), (0, .ref u)]) G0.1 G0.2.1 dX12_sum_20 rfl hl (by decide) rfl (fun ls hl => ?_)
    have lo_21 : ∀ n_21 : Nat, ∀ (v_61 : Int32) (L_j21 : List Nat) (f_j21 : py_F) (H_j21 : Heap) (locs : List Loc) (ls : Array Slot), (mi f u 2 - mi f_j21 u 3).toNat = n_21 → WF E G L_j21 f_j21 → KP G [41, 42, 43, 13] false f f_j21 → FK [3, 4, 5] f f_j21 u → TR f f_j21 G u (15 - 2 * wb) 0 1 → (mi f u 3 ≤ mi f_j21 u 3 ∧ cdv f_j21 G u - cdv f G u ≤ mi f_j21 u 3 - mi f u 3 ∧ mi f_j21 u 3 ≤ 167 - mi f u 5) → (mi f_j21 u 4 = -1 → mi f_j21 u 5 = mi f u 5 ∧ mi f_j21 u 3 ≤ mi f u 2) → (v_61.toInt ≠ -1 → mi f_j21 u 4 = -1 ∧ mi f_j21 u 3 < mi f u 2) → (mi f_j21 u 2 = mi f u 2) → py_W E (va_A (va_pl L f) s.heap.size) s L_j21 f_j21 H_j21 locs → lv_has ls 2 [(1, .int v_61), (0, .ref u)] → W p l e (headSpec w_X12_sum ({ frames := fr + 1, cells := 0, slots := 0, locals := lo + 60 })).room s m ([.ref u] : List Value).toArray below meth c H_j21 locs 0 0 (MQ below (py_Qv E L f s.heap.size (fun L1 f1 => (mi f u 3 ≤ mi f1 u 3 ∧ cdv f1 G u - cdv f G u ≤ mi f1 u 3 - mi f u 3 ∧ mi f1 u 3 ≤ 167 - mi f u 5) ∧ (mi f1 u 4 = -1 → mi f1 u 5 = mi f u 5 ∧ mi f1 u 3 ≤ mi f u 2) ∧ (TR f f1 G u (15 - 2 * wb) 0 1) ∧ WF E G L1 f1 ∧ KP G [41, 42, 43, 13] false f f1 ∧ FK [3, 4, 5] f f1 u)) ([.ref u] : List Value).toArray s 0 0 (va_A (va_pl L f) s.heap.size)) (F0 m 21 ls []) := by
      intro n_21
      induction n_21 using Nat.strongRecOn with
      | _ n_21 ih_21 =>
        intro v_61 L_j21 f_j21 H_j21 locs ls hn_21 hWF hKP hFK hTR iv0 iv1 iv2 iv3 hw hl
        refine lv_iload_n G0.1 G0.2.1 dX12_sum_21 rfl (lv_at hl 0 rfl) ?_
        refine lv_bipush (v := 43) G0.1 G0.2.1 dX12_sum_22 (by decide) ?_
        refine lv_icmp_eq (tgt := 33) G0.1 G0.2.1 dX12_sum_24 (by decide) (fun c_62 => ?_) (fun c_62 => ?_)
        · skip
          have tc_62 := ti_eq c_62
          replace iv2 := iv2 (by omega)
          refine lv_aload_n G0.1 G0.2.1 dX12_sum_33 rfl (lv_at hl 1 rfl) ?_
          refine lv_dup G0.1 G0.2.1 dX12_sum_34 rfl ?_
          obtain ⟨v_63, v_64, v_65, v_66, v_67, v_68, v_69, v_70, v_71, v_72, v_73, v_74, y_75, v_76, v_77, v_78, v_79, v_80, y_81, v_82, y_83, v_84, hr_97, b_85, b_86, b_87, b_88, b_89, b_90, b_91, b_92, b_93, b_94, b_95, b_96⟩ := wg_12 hWF Tu
          have tq_98 := mi_row hr_97 2 rfl
          have tq_99 := mi_row hr_97 3 rfl
          have bv_65 := wf_free v_65
          have tq_100 := mi_row hr_97 4 rfl
          have bv_66 := wf_free v_66
          have tq_101 := mi_row hr_97 5 rfl
          have bv_67 := wf_free v_67
          have tq_102 := mi_row hr_97 14 rfl
          refine py_get (C := RX12) (T := TX12) (N := 54) (k := 3) (v := .int v_65) G0 hw in_X12_sum_X12 rfl hr_97 (by decide) (by decide +kernel) rfl dX12_sum_35 ?_
          refine lv_iconst (v := 1) G0.1 G0.2.1 dX12_sum_38 (by decide) ?_
          refine lv_iadd G0.1 G0.2.1 dX12_sum_39 ?_
          refine lv_topi (fun x_103 ex_103 => ?_)
          first | have tx_103 := ti_add ex_103 (by omega -splitDisjunctions) (by omega -splitDisjunctions) | skip
          refine py_put (C := RX12) (T := TX12) (N := 54) (k := 3) (v := .int x_103) (fs' := [.int v_63, .ref (G.2 u 1), .int v_64, .int x_103, .int v_66, .int v_67, .ref (G.2 u 6), .ref (G.2 u 7), .ref (G.2 u 8), .ref (G.2 u 9), .ref (G.2 u 10), .ref (G.2 u 11), .ref (G.2 u 12), .int v_68, .int v_69, .ref (G.2 u 15), .ref (G.2 u 16), .ref (G.2 u 17), .ref (G.2 u 18), .int v_70, .int v_71, .ref (G.2 u 21), .ref (G.2 u 22), .ref (G.2 u 23), .int v_72, .int v_73, .ref (G.2 u 26), .ref (G.2 u 27), .ref (G.2 u 28), .int v_74, .long y_75, .int v_76, .int v_77, .int v_78, .int v_79, .ref (G.2 u 35), .ref (G.2 u 36), .ref (G.2 u 37), .ref (G.2 u 38), .ref (G.2 u 39), .ref (G.2 u 40), .ref (G.2 u 41), .ref (G.2 u 42), .int v_80, .ref (G.2 u 44), .ref (G.2 u 45), .ref (G.2 u 46), .ref (G.2 u 47), .long y_81, .ref (G.2 u 49), .ref (G.2 u 50), .int v_82, .long y_83, .int v_84]) (ty0 := tyX12) G0 hw tyX12_ok nmX12 in_X12_sum_X12 rfl hr_97 (by decide) (by decide +kernel) rfl rfl rfl rfl (Nat.le_of_ble_eq_true rfl) rfl dX12_sum_40 (fun f_104 H_105 locs h_106 x_107 hw => ?_)
          have hFK := hFK.put hr_97 h_106 3 (by decide) rfl
          have cq_108 := cdv_own (f1 := f_j21) (f2 := f_104) hG hWF Tu x_107 (by have z1 := mi_row hr_97 14 rfl; have z2 := mi_row h_106 14 rfl; omega)
          have hTR := hTR.own hG hWF Tu x_107 (by have z1 := mi_row hr_97 14 rfl; have z2 := mi_row h_106 14 rfl; omega) (by intro q; have z1 := mi_row hr_97 4 rfl; have z2 := mi_row h_106 4 rfl; omega)
          have hKP := hKP.upd hWF x_107 Tu (Or.inl (by decide))
          have hWF := wf_upd hWF h_106 x_107 (by rw [Tu]; exact ⟨v_63, v_64, x_103, v_66, v_67, v_68, v_69, v_70, v_71, v_72, v_73, v_74, y_75, v_76, v_77, v_78, v_79, v_80, y_81, v_82, y_83, v_84, rfl, ⟨by omega, by omega⟩, ⟨by omega, by omega⟩, ⟨by omega, by omega⟩, ⟨by omega, by omega⟩, ⟨by omega, by omega⟩, ⟨by omega, by omega⟩, ⟨by omega, by omega⟩, ⟨by omega, by omega⟩, ⟨by omega, by omega⟩, ⟨by omega, by omega⟩, ⟨by omega, by omega⟩, ⟨by omega, by omega⟩⟩)
          have tq_109 := mi_row h_106 2 rfl
          have tq_110 := mi_row h_106 3 rfl
          have bx_103 := wf_free x_103
          have tq_111 := mi_row h_106 4 rfl
          have bv_66 := wf_free v_66
          have tq_112 := mi_row h_106 5 rfl
          have bv_67 := wf_free v_67
          have tq_113 := mi_row h_106 14 rfl
          refine lv_aload_n G0.1 G0.2.1 dX12_sum_43 rfl (lv_at hl 1 rfl) ?_
          refine py_callv hw (va_runV (As := []) (rest := []) G0 (ih_term L_j21 f_104 H_105.size u hWF Tu (show mi f_104 u 4 = -1 ∧ wb ≤ mi f_104 u 5 ∧ mi f_104 u 5 ≤ 6 ∧ 0 ≤ mi f_104 u 3 ∧ mi f_104 u 3 ≤ mi f_104 u 2 ∧ cdv f_104 G u ≤ mi f_104 u 3 by omega)) (cwV 0 G0.2.2.2.2 g_X12_sum_X12_term_177 rfl rfl rfl (by decide +kernel) ⟨(show f_term + 1 ≤ fr + 1 by omega), (show 8 + (2 + 11) + l_term ≤ lo + 60 by omega)⟩) (py_preV hw (C := RX12) (T := TX12) (N := 54) rfl h_106) rfl rfl hl.1 rfl (lv_room (Nat.le_of_ble_eq_true rfl)) dX12_sum_44 ⟨(Nat.le_of_ble_eq_true rfl), (Nat.le_of_ble_eq_true rfl)⟩) (fun L_114 f_115 H_116 locs hp_117 hw => ?_)
          obtain ⟨en_119, en_120, en_121, hWF, kp_122, fk_123⟩ := hp_117
          have hFK := hFK.trans fk_123 (by decide)
          have hKP := hKP.trans kp_122 (by decide) (by decide)
          obtain ⟨v_124, v_125, v_126, hr_127⟩ := fk_3_4_5 hWF Tu fk_123 h_106
          have tq_128 := mi_row hr_127 2 rfl
          have tq_129 := mi_row hr_127 3 rfl
          have bv_124 := wf_free v_124
          have tq_130 := mi_row hr_127 4 rfl
          have bv_125 := wf_free v_125
          have tq_131 := mi_row hr_127 5 rfl
          have bv_126 := wf_free v_126
          have tq_132 := mi_row hr_127 14 rfl
          have hTR : TR f f_115 G u (15 - 2 * wb) 0 2 := hTR.trans (en_121.lift (b := 1) (by omega) (by omega) (by omega) (by omega)) (fun q => by omega)
          refine lv_aload_n G0.1 G0.2.1 dX12_sum_47 rfl (lv_at hl 1 rfl) ?_
          refine lv_iload_n G0.1 G0.2.1 dX12_sum_48 rfl (lv_at hl 0 rfl) ?_
          refine lv_bipush (v := 43) G0.1 G0.2.1 dX12_sum_49 (by decide) ?_
          have jn_59 : ∀ (v_133 : Int32) (H_j59 : Heap) (locs : List Loc) (ls : Array Slot), (2 ≤ v_133.toInt ∧ v_133.toInt ≤ 3) → py_W E (va_A (va_pl L f) s.heap.size) s L_114 f_115 H_j59 locs → lv_has ls 2 [(1, .int v_61), (0, .ref u)] → W p l e (headSpec w_X12_sum ({ frames := fr + 1, cells := 0, slots := 0, locals := lo + 60 })).room s m ([.ref u] : List Value).toArray below meth c H_j59 locs 0 0 (MQ below (py_Qv E L f s.heap.size (fun L1 f1 => (mi f u 3 ≤ mi f1 u 3 ∧ cdv f1 G u - cdv f G u ≤ mi f1 u 3 - mi f u 3 ∧ mi f1 u 3 ≤ 167 - mi f u 5) ∧ (mi f1 u 4 = -1 → mi f1 u 5 = mi f u 5 ∧ mi f1 u 3 ≤ mi f u 2) ∧ (TR f f1 G u (15 - 2 * wb) 0 1) ∧ WF E G L1 f1 ∧ KP G [41, 42, 43, 13] false f f1 ∧ FK [3, 4, 5] f f1 u)) ([.ref u] : List Value).toArray s 0 0 (va_A (va_pl L f) s.heap.size)) (F0 m 59 ls [.int v_133, .ref u]) := by
            intro v_133 H_j59 locs ls bv_133 hw hl
            refine lv_iconst (v := 0) G0.1 G0.2.1 dX12_sum_59 (by decide) ?_
            refine py_callv hw (va_runV (As := [.int v_133, .int 0]) (rest := []) G0 (c_X12_put l E G L_114 f_115 H_j59.size u v_133 0 hG hWF Tu (show cdv f_115 G u ≤ 339 by omega)) (cwV 2 G0.2.2.2.2 g_X12_sum_X12_put_156 rfl rfl rfl (by decide +kernel) ⟨(show 0 + 1 ≤ fr + 1 by omega), (show 8 + (3 + 11) + 0 ≤ lo + 60 by omega)⟩) (py_preV hw (C := RX12) (T := TX12) (N := 54) rfl hr_127) rfl rfl hl.1 rfl (lv_room (Nat.le_of_ble_eq_true rfl)) dX12_sum_60 ⟨(Nat.le_of_ble_eq_true rfl), (Nat.le_of_ble_eq_true rfl)⟩) (fun L_134 f_135 H_136 locs hp_137 hw => ?_)
            obtain ⟨en_139, en_140, hWF, kp_141, fk_142⟩ := hp_137
            have en_139 : PT f_115 f_135 G u v_133 (0 : Int32) := en_139
            have hFK := hFK.trans fk_142 (by decide)
            have hKP := hKP.trans kp_141 (by decide) (by decide)
            have hr_127 := kp_at kp_141 hWF Tu (by decide) (by decide) (by decide) hr_127
            have tq_143 := mi_row hr_127 2 rfl
            have tq_144 := mi_row hr_127 3 rfl
            have bv_124 := wf_free v_124
            have tq_145 := mi_row hr_127 4 rfl
            have bv_125 := wf_free v_125
            have tq_146 := mi_row hr_127 5 rfl
            have bv_126 := wf_free v_126
            have tq_147 := mi_row hr_127 14 rfl
            have hTR : TR f f_135 G u (15 - 2 * wb) 0 1 := hTR.trans (en_139.tr (by omega)) (fun q => by omega)
            refine lv_aload_n G0.1 G0.2.1 dX12_sum_63 rfl (lv_at hl 1 rfl) ?_
            refine py_get (C := RX12) (T := TX12) (N := 54) (k := 4) (v := .int v_125) G0 hw in_X12_sum_X12 rfl hr_127 (by decide) (by decide +kernel) rfl dX12_sum_64 ?_
            refine lv_iconst (v := (-1)) G0.1 G0.2.1 dX12_sum_67 (by decide) ?_
            refine lv_icmp_ne (tgt := 78) G0.1 G0.2.1 dX12_sum_68 (by decide) (fun c_148 => ?_) (fun c_148 => ?_)
            · skip
              have tc_148 := ti_ne c_148
              clear en_120
              refine lv_iconst (v := (-1)) G0.1 G0.2.1 dX12_sum_78 (by decide) ?_
              refine lv_istore_n (lv' := [(1, .int (-1)), (0, .ref u)]) G0.1 G0.2.1 dX12_sum_79 rfl hl (by decide) rfl (fun ls hl => ?_)
              refine lv_goto (tgt := 21) G0.1 G0.2.1 dX12_sum_80 (by decide) ?_
              exact ih_21 ((mi f u 2 - mi f_135 u 3).toNat) (by omega) (-1) L_134 f_135 _ _ ls rfl hWF hKP hFK hTR (by first | omega | (intros; omega)) (by first | omega | (intros; omega)) (by first | omega | (intros; omega)) (by first | omega | (intros; omega)) hw (lv_sub hl [0, 1] rfl)
            · skip
              have tc_148 := ti_eq c_148
              replace en_120 := en_120 (by omega)
              refine lv_aload_n G0.1 G0.2.1 dX12_sum_71 rfl (lv_at hl 1 rfl) ?_
              refine py_calli hw (va_runV (As := []) (rest := []) G0 (c_X12_look l E G L_134 f_135 H_136.size u hG hWF Tu (show 0 ≤ mi f_135 u 3 ∧ mi f_135 u 3 ≤ mi f_135 u 2 by omega)) (cwV 0 G0.2.2.2.2 g_X12_sum_X12_look_146 rfl rfl rfl (by decide +kernel) ⟨(show 1 + 1 ≤ fr + 1 by omega), (show 8 + (1 + 11) + 20 ≤ lo + 60 by omega)⟩) (py_preV hw (C := RX12) (T := TX12) (N := 54) rfl hr_127) rfl rfl hl.1 rfl (lv_room (Nat.le_of_ble_eq_true rfl)) dX12_sum_72 ⟨(Nat.le_of_ble_eq_true rfl), (Nat.le_of_ble_eq_true rfl)⟩) (fun r_153 L_149 f_150 H_151 locs hp_152 hw => ?_)
              obtain ⟨en_154, en_155, en_156, hWF, kp_157, fk_158⟩ := hp_152
              have cq_159 := cdv_k hG Tu kp_157 fk_158 (by decide)
              have hFK := hFK.trans fk_158 (by decide)
              have hKP := hKP.trans kp_157 (by decide) (by decide)
              obtain ⟨v_160, hr_161⟩ := fk_3 hWF Tu fk_158 hr_127
              have tq_162 := mi_row hr_161 2 rfl
              have tq_163 := mi_row hr_161 3 rfl
              have bv_160 := wf_free v_160
              have tq_164 := mi_row hr_161 4 rfl
              have bv_125 := wf_free v_125
              have tq_165 := mi_row hr_161 5 rfl
              have bv_126 := wf_free v_126
              have tq_166 := mi_row hr_161 14 rfl
              have hTR := hTR.kp hG Tu kp_157 fk_158 (by decide) (fun q => by omega)
              have br_153 := wf_free r_153
              refine lv_goto (tgt := 79) G0.1 G0.2.1 dX12_sum_75 (by decide) ?_
              refine lv_istore_n (lv' := [(1, .int r_153), (0, .ref u)]) G0.1 G0.2.1 dX12_sum_79 rfl hl (by decide) rfl (fun ls hl => ?_)
              refine lv_goto (tgt := 21) G0.1 G0.2.1 dX12_sum_80 (by decide) ?_
              exact ih_21 ((mi f u 2 - mi f_150 u 3).toNat) (by omega) r_153 L_149 f_150 _ _ ls rfl hWF hKP hFK hTR (by first | omega | (intros; omega)) (by first | omega | (intros; omega)) (by first | omega | (intros; omega)) (by first | omega | (intros; omega)) hw (lv_sub hl [0, 1] rfl)
          refine lv_icmp_ne (tgt := 58) G0.1 G0.2.1 dX12_sum_51 (by decide) (fun c_167 => ?_) (fun c_167 => ?_)
          · skip
            have tc_167 := ti_ne c_167
            refine lv_iconst (v := 3) G0.1 G0.2.1 dX12_sum_58 (by decide) ?_
            exact jn_59 3 _ _ ls ⟨by omega, by omega⟩ hw (lv_sub hl [0, 1] rfl)
          · skip
            have tc_167 := ti_eq c_167
            refine lv_iconst (v := 2) G0.1 G0.2.1 dX12_sum_54 (by decide) ?_
            refine lv_goto (tgt := 59) G0.1 G0.2.1 dX12_sum_55 (by decide) ?_
            exact jn_59 2 _ _ ls ⟨by omega, by omega⟩ hw (lv_sub hl [0, 1] rfl)
        · skip
          have tc_62 := ti_ne c_62
          refine lv_iload_n G0.1 G0.2.1 dX12_sum_27 rfl (lv_at hl 0 rfl) ?_
          refine lv_bipush (v := 45) G0.1 G0.2.1 dX12_sum_28 (by decide) ?_
          refine lv_icmp_ne (tgt := 83) G0.1 G0.2.1 dX12_sum_30 (by decide) (fun c_168 => ?_) (fun c_168 => ?_)
          · skip
            have tc_168 := ti_ne c_168
            exact py_vret G0 hr hlk hw ⟨(by first | omega | (intro q; omega)), (by first | omega | (intro q; omega)), hTR, hWF, hKP, hFK⟩ dX12_sum_83
          · skip
            have tc_168 := ti_eq c_168
            replace iv2 := iv2 (by omega)
            refine lv_aload_n G0.1 G0.2.1 dX12_sum_33 rfl (lv_at hl 1 rfl) ?_
            refine lv_dup G0.1 G0.2.1 dX12_sum_34 rfl ?_
            obtain ⟨v_169, v_170, v_171, v_172, v_173, v_174, v_175, v_176, v_177, v_178, v_179, v_180, y_181, v_182, v_183, v_184, v_185, v_186, y_187, v_188, y_189, v_190, hr_203, b_191, b_192, b_193, b_194, b_195, b_196, b_197, b_198, b_199, b_200, b_201, b_202⟩ := wg_12 hWF Tu
            have tq_204 := mi_row hr_203 2 rfl
            have tq_205 := mi_row hr_203 3 rfl
            have bv_171 := wf_free v_171
            have tq_206 := mi_row hr_203 4 rfl
            have bv_172 := wf_free v_172
            have tq_207 := mi_row hr_203 5 rfl
            have bv_173 := wf_free v_173
            have tq_208 := mi_row hr_203 14 rfl
            refine py_get (C := RX12) (T := TX12) (N := 54) (k := 3) (v := .int v_171) G0 hw in_X12_sum_X12 rfl hr_203 (by decide) (by decide +kernel) rfl dX12_sum_35 ?_
            refine lv_iconst (v := 1) G0.1 G0.2.1 dX12_sum_38 (by decide) ?_
            refine lv_iadd G0.1 G0.2.1 dX12_sum_39 ?_
            refine lv_topi (fun x_209 ex_209 => ?_)
            first | have tx_209 := ti_add ex_209 (by omega -splitDisjunctions) (by omega -splitDisjunctions) | skip
            refine py_put (C := RX12) (T := TX12) (N := 54) (k := 3) (v := .int x_209) (fs' := [.int v_169, .ref (G.2 u 1), .int v_170, .int x_209, .int v_172, .int v_173, .ref (G.2 u 6), .ref (G.2 u 7), .ref (G.2 u 8), .ref (G.2 u 9), .ref (G.2 u 10), .ref (G.2 u 11), .ref (G.2 u 12), .int v_174, .int v_175, .ref (G.2 u 15), .ref (G.2 u 16), .ref (G.2 u 17), .ref (G.2 u 18), .int v_176, .int v_177, .ref (G.2 u 21), .ref (G.2 u 22), .ref (G.2 u 23), .int v_178, .int v_179, .ref (G.2 u 26), .ref (G.2 u 27), .ref (G.2 u 28), .int v_180, .long y_181, .int v_182, .int v_183, .int v_184, .int v_185, .ref (G.2 u 35), .ref (G.2 u 36), .ref (G.2 u 37), .ref (G.2 u 38), .ref (G.2 u 39), .ref (G.2 u 40), .ref (G.2 u 41), .ref (G.2 u 42), .int v_186, .ref (G.2 u 44), .ref (G.2 u 45), .ref (G.2 u 46), .ref (G.2 u 47), .long y_187, .ref (G.2 u 49), .ref (G.2 u 50), .int v_188, .long y_189, .int v_190]) (ty0 := tyX12) G0 hw tyX12_ok nmX12 in_X12_sum_X12 rfl hr_203 (by decide) (by decide +kernel) rfl rfl rfl rfl (Nat.le_of_ble_eq_true rfl) rfl dX12_sum_40 (fun f_210 H_211 locs h_212 x_213 hw => ?_)
            have hFK := hFK.put hr_203 h_212 3 (by decide) rfl
            have cq_214 := cdv_own (f1 := f_j21) (f2 := f_210) hG hWF Tu x_213 (by have z1 := mi_row hr_203 14 rfl; have z2 := mi_row h_212 14 rfl; omega)
            have hTR := hTR.own hG hWF Tu x_213 (by have z1 := mi_row hr_203 14 rfl; have z2 := mi_row h_212 14 rfl; omega) (by intro q; have z1 := mi_row hr_203 4 rfl; have z2 := mi_row h_212 4 rfl; omega)
            have hKP := hKP.upd hWF x_213 Tu (Or.inl (by decide))
            have hWF := wf_upd hWF h_212 x_213 (by rw [Tu]; exact ⟨v_169, v_170, x_209, v_172, v_173, v_174, v_175, v_176, v_177, v_178, v_179, v_180, y_181, v_182, v_183, v_184, v_185, v_186, y_187, v_188, y_189, v_190, rfl, ⟨by omega, by omega⟩, ⟨by omega, by omega⟩, ⟨by omega, by omega⟩, ⟨by omega, by omega⟩, ⟨by omega, by omega⟩, ⟨by omega, by omega⟩, ⟨by omega, by omega⟩, ⟨by omega, by omega⟩, ⟨by omega, by omega⟩, ⟨by omega, by omega⟩, ⟨by omega, by omega⟩, ⟨by omega, by omega⟩⟩)
            have tq_215 := mi_row h_212 2 rfl
            have tq_216 := mi_row h_212 3 rfl
            have bx_209 := wf_free x_209
            have tq_217 := mi_row h_212 4 rfl
            have bv_172 := wf_free v_172
            have tq_218 := mi_row h_212 5 rfl
            have bv_173 := wf_free v_173
            have tq_219 := mi_row h_212 14 rfl
            refine lv_aload_n G0.1 G0.2.1 dX12_sum_43 rfl (lv_at hl 1 rfl) ?_
            refine py_callv hw (va_runV (As := []) (rest := []) G0 (ih_term L_j21 f_210 H_211.size u hWF Tu (show mi f_210 u 4 = -1 ∧ wb ≤ mi f_210 u 5 ∧ mi f_210 u 5 ≤ 6 ∧ 0 ≤ mi f_210 u 3 ∧ mi f_210 u 3 ≤ mi f_210 u 2 ∧ cdv f_210 G u ≤ mi f_210 u 3 by omega)) (cwV 0 G0.2.2.2.2 g_X12_sum_X12_term_177 rfl rfl rfl (by decide +kernel) ⟨(show f_term + 1 ≤ fr + 1 by omega), (show 8 + (2 + 11) + l_term ≤ lo + 60 by omega)⟩) (py_preV hw (C := RX12) (T := TX12) (N := 54) rfl h_212) rfl rfl hl.1 rfl (lv_room (Nat.le_of_ble_eq_true rfl)) dX12_sum_44 ⟨(Nat.le_of_ble_eq_true rfl), (Nat.le_of_ble_eq_true rfl)⟩) (fun L_220 f_221 H_222 locs hp_223 hw => ?_)
            obtain ⟨en_225, en_226, en_227, hWF, kp_228, fk_229⟩ := hp_223
            have hFK := hFK.trans fk_229 (by decide)
            have hKP := hKP.trans kp_228 (by decide) (by decide)
            obtain ⟨v_230, v_231, v_232, hr_233⟩ := fk_3_4_5 hWF Tu fk_229 h_212
            have tq_234 := mi_row hr_233 2 rfl
            have tq_235 := mi_row hr_233 3 rfl
            have bv_230 := wf_free v_230
            have tq_236 := mi_row hr_233 4 rfl
            have bv_231 := wf_free v_231
            have tq_237 := mi_row hr_233 5 rfl
            have bv_232 := wf_free v_232
            have tq_238 := mi_row hr_233 14 rfl
            have hTR : TR f f_221 G u (15 - 2 * wb) 0 2 := hTR.trans (en_227.lift (b := 1) (by omega) (by omega) (by omega) (by omega)) (fun q => by omega)
            refine lv_aload_n G0.1 G0.2.1 dX12_sum_47 rfl (lv_at hl 1 rfl) ?_
            refine lv_iload_n G0.1 G0.2.1 dX12_sum_48 rfl (lv_at hl 0 rfl) ?_
            refine lv_bipush (v := 43) G0.1 G0.2.1 dX12_sum_49 (by decide) ?_
            have jn_59 : ∀ (v_239 : Int32) (H_j59 : Heap) (locs : List Loc) (ls : Array Slot), (2 ≤ v_239.toInt ∧ v_239.toInt ≤ 3) → py_W E (va_A (va_pl L f) s.heap.size) s L_220 f_221 H_j59 locs → lv_has ls 2 [(1, .int v_61), (0, .ref u)] → W p l e (headSpec w_X12_sum ({ frames := fr + 1, cells := 0, slots := 0, locals := lo + 60 })).room s m ([.ref u] : List Value).toArray below meth c H_j59 locs 0 0 (MQ below (py_Qv E L f s.heap.size (fun L1 f1 => (mi f u 3 ≤ mi f1 u 3 ∧ cdv f1 G u - cdv f G u ≤ mi f1 u 3 - mi f u 3 ∧ mi f1 u 3 ≤ 167 - mi f u 5) ∧ (mi f1 u 4 = -1 → mi f1 u 5 = mi f u 5 ∧ mi f1 u 3 ≤ mi f u 2) ∧ (TR f f1 G u (15 - 2 * wb) 0 1) ∧ WF E G L1 f1 ∧ KP G [41, 42, 43, 13] false f f1 ∧ FK [3, 4, 5] f f1 u)) ([.ref u] : List Value).toArray s 0 0 (va_A (va_pl L f) s.heap.size)) (F0 m 59 ls [.int v_239, .ref u]) := by
              intro v_239 H_j59 locs ls bv_239 hw hl
              refine lv_iconst (v := 0) G0.1 G0.2.1 dX12_sum_59 (by decide) ?_
              refine py_callv hw (va_runV (As := [.int v_239, .int 0]) (rest := []) G0 (c_X12_put l E G L_220 f_221 H_j59.size u v_239 0 hG hWF Tu (show cdv f_221 G u ≤ 339 by omega)) (cwV 2 G0.2.2.2.2 g_X12_sum_X12_put_156 rfl rfl rfl (by decide +kernel) ⟨(show 0 + 1 ≤ fr + 1 by omega), (show 8 + (3 + 11) + 0 ≤ lo + 60 by omega)⟩) (py_preV hw (C := RX12) (T := TX12) (N := 54) rfl hr_233) rfl rfl hl.1 rfl (lv_room (Nat.le_of_ble_eq_true rfl)) dX12_sum_60 ⟨(Nat.le_of_ble_eq_true rfl), (Nat.le_of_ble_eq_true rfl)⟩) (fun L_240 f_241 H_242 locs hp_243 hw => ?_)
              obtain ⟨en_245, en_246, hWF, kp_247, fk_248⟩ := hp_243
              have en_245 : PT f_221 f_241 G u v_239 (0 : Int32) := en_245
              have hFK := hFK.trans fk_248 (by decide)
              have hKP := hKP.trans kp_247 (by decide) (by decide)
              have hr_233 := kp_at kp_247 hWF Tu (by decide) (by decide) (by decide) hr_233
              have tq_249 := mi_row hr_233 2 rfl
              have tq_250 := mi_row hr_233 3 rfl
              have bv_230 := wf_free v_230
              have tq_251 := mi_row hr_233 4 rfl
              have bv_231 := wf_free v_231
              have tq_252 := mi_row hr_233 5 rfl
              have bv_232 := wf_free v_232
              have tq_253 := mi_row hr_233 14 rfl
              have hTR : TR f f_241 G u (15 - 2 * wb) 0 1 := hTR.trans (en_245.tr (by omega)) (fun q => by omega)
              refine lv_aload_n G0.1 G0.2.1 dX12_sum_63 rfl (lv_at hl 1 rfl) ?_
              refine py_get (C := RX12) (T := TX12) (N := 54) (k := 4) (v := .int v_231) G0 hw in_X12_sum_X12 rfl hr_233 (by decide) (by decide +kernel) rfl dX12_sum_64 ?_
              refine lv_iconst (v := (-1)) G0.1 G0.2.1 dX12_sum_67 (by decide) ?_
              refine lv_icmp_ne (tgt := 78) G0.1 G0.2.1 dX12_sum_68 (by decide) (fun c_254 => ?_) (fun c_254 => ?_)
              · skip
                have tc_254 := ti_ne c_254
                clear en_226
                refine lv_iconst (v := (-1)) G0.1 G0.2.1 dX12_sum_78 (by decide) ?_
                refine lv_istore_n (lv' := [(1, .int (-1)), (0, .ref u)]) G0.1 G0.2.1 dX12_sum_79 rfl hl (by decide) rfl (fun ls hl => ?_)
                refine lv_goto (tgt := 21) G0.1 G0.2.1 dX12_sum_80 (by decide) ?_
                exact ih_21 ((mi f u 2 - mi f_241 u 3).toNat) (by omega) (-1) L_240 f_241 _ _ ls rfl hWF hKP hFK hTR (by first | omega | (intros; omega)) (by first | omega | (intros; omega)) (by first | omega | (intros; omega)) (by first | omega | (intros; omega)) hw (lv_sub hl [0, 1] rfl)
              · skip
                have tc_254 := ti_eq c_254
                replace en_226 := en_226 (by omega)
                refine lv_aload_n G0.1 G0.2.1 dX12_sum_71 rfl (lv_at hl 1 rfl) ?_
                refine py_calli hw (va_runV (As := []) (rest := []) G0 (c_X12_look l E G L_240 f_241 H_242.size u hG hWF Tu (show 0 ≤ mi f_241 u 3 ∧ mi f_241 u 3 ≤ mi f_241 u 2 by omega)) (cwV 0 G0.2.2.2.2 g_X12_sum_X12_look_146 rfl rfl rfl (by decide +kernel) ⟨(show 1 + 1 ≤ fr + 1 by omega), (show 8 + (1 + 11) + 20 ≤ lo + 60 by omega)⟩) (py_preV hw (C := RX12) (T := TX12) (N := 54) rfl hr_233) rfl rfl hl.1 rfl (lv_room (Nat.le_of_ble_eq_true rfl)) dX12_sum_72 ⟨(Nat.le_of_ble_eq_true rfl), (Nat.le_of_ble_eq_true rfl)⟩) (fun r_259 L_255 f_256 H_257 locs hp_258 hw => ?_)
                obtain ⟨en_260, en_261, en_262, hWF, kp_263, fk_264⟩ := hp_258
                have cq_265 := cdv_k hG Tu kp_263 fk_264 (by decide)
                have hFK := hFK.trans fk_264 (by decide)
                have hKP := hKP.trans kp_263 (by decide) (by decide)
                obtain ⟨v_266, hr_267⟩ := fk_3 hWF Tu fk_264 hr_233
                have tq_268 := mi_row hr_267 2 rfl
                have tq_269 := mi_row hr_267 3 rfl
                have bv_266 := wf_free v_266
                have tq_270 := mi_row hr_267 4 rfl
                have bv_231 := wf_free v_231
                have tq_271 := mi_row hr_267 5 rfl
                have bv_232 := wf_free v_232
                have tq_272 := mi_row hr_267 14 rfl
                have hTR := hTR.kp hG Tu kp_263 fk_264 (by decide) (fun q => by omega)
                have br_259 := wf_free r_259
                refine lv_goto (tgt := 79) G0.1 G0.2.1 dX12_sum_75 (by decide) ?_
                refine lv_istore_n (lv' := [(1, .int r_259), (0, .ref u)]) G0.1 G0.2.1 dX12_sum_79 rfl hl (by decide) rfl (fun ls hl => ?_)
                refine lv_goto (tgt := 21) G0.1 G0.2.1 dX12_sum_80 (by decide) ?_
                exact ih_21 ((mi f u 2 - mi f_256 u 3).toNat) (by omega) r_259 L_255 f_256 _ _ ls rfl hWF hKP hFK hTR (by first | omega | (intros; omega)) (by first | omega | (intros; omega)) (by first | omega | (intros; omega)) (by first | omega | (intros; omega)) hw (lv_sub hl [0, 1] rfl)
            refine lv_icmp_ne (tgt := 58) G0.1 G0.2.1 dX12_sum_51 (by decide) (fun c_273 => ?_) (fun c_273 => ?_)
            · skip
              have tc_273 := ti_ne c_273
              refine lv_iconst (v := 3) G0.1 G0.2.1 dX12_sum_58 (by decide) ?_
              exact jn_59 3 _ _ ls ⟨by omega, by omega⟩ hw (lv_sub hl [0, 1] rfl)
            · skip
              have tc_273 := ti_eq c_273
              refine lv_iconst (v := 2) G0.1 G0.2.1 dX12_sum_54 (by decide) ?_
              refine lv_goto (tgt := 59) G0.1 G0.2.1 dX12_sum_55 (by decide) ?_
              exact jn_59 2 _ _ ls ⟨by omega, by omega⟩ hw (lv_sub hl [0, 1] rfl)
    exact lo_21 _ (-1) L_41 f_42 _ _ ls rfl hWF hKP hFK hTR (by first | omega | (intros; omega)) (by first | omega | (intros; omega)) (by first | omega | (intros; omega)) (by first | omega | (intros; omega)) hw (lv_sub hl [0, 1] rfl)
  · skip
    have tc_60 := ti_eq c_60
    replace en_47 := en_47 (by omega)
    refine lv_aload_n G0.1 G0.2.1 dX12_sum_12 rfl (lv_at hl 0 rfl) ?_
    refine py_calli hw (va_runV (As := []) (rest := []) G0 (c_X12_look l E G L_41 f_42 H_43.size u hG hWF Tu (show 0 ≤ mi f_42 u 3 ∧ mi f_42 u 3 ≤ mi f_42 u 2 by omega)) (cwV 0 G0.2.2.2.2 g_X12_sum_X12_look_146 rfl rfl rfl (by decide +kernel) ⟨(show 1 + 1 ≤ fr + 1 by omega), (show 8 + (1 + 11) + 20 ≤ lo + 60 by omega)⟩) (py_preV hw (C := RX12) (T := TX12) (N := 54) rfl hr_54) rfl rfl hl.1 rfl (lv_room (Nat.le_of_ble_eq_true rfl)) dX12_sum_13 ⟨(Nat.le_of_ble_eq_true rfl), (Nat.le_of_ble_eq_true rfl)⟩) (fun r_278 L_274 f_275 H_276 locs hp_277 hw => ?_)
    obtain ⟨en_279, en_280, en_281, hWF, kp_282, fk_283⟩ := hp_277
    have cq_284 := cdv_k hG Tu kp_282 fk_283 (by decide)
    have hFK := hFK.trans fk_283 (by decide)
    have hKP := hKP.trans kp_282 (by decide) (by decide)
    obtain ⟨v_285, hr_286⟩ := fk_3 hWF Tu fk_283 hr_54
    have tq_287 := mi_row hr_286 2 rfl
    have tq_288 := mi_row hr_286 3 rfl
    have bv_285 := wf_free v_285
    have tq_289 := mi_row hr_286 4 rfl
    have bv_52 := wf_free v_52
    have tq_290 := mi_row hr_286 5 rfl
    have bv_53 := wf_free v_53
    have tq_291 := mi_row hr_286 14 rfl
    have hTR := hTR.kp hG Tu kp_282 fk_283 (by decide) (fun q => by omega)
    have br_278 := wf_free r_278
    refine lv_goto (tgt := 20) G0.1 G0.2.1 dX12_sum_16 (by decide) ?_
    refine lv_istore_n (lv' := [(1, .int r_278), (0, .ref u)]) G0.1 G0.2.1 dX12_sum_20 rfl hl (by decide) rfl (fun ls hl => ?_)
    have lo_21 : ∀ n_21 : Nat, ∀ (v_292 : Int32) (L_j21 : List Nat) (f_j21 : py_F) (H_j21 : Heap) (locs : List Loc) (ls : Array Slot), (mi f u 2 - mi f_j21 u 3).toNat = n_21 → WF E G L_j21 f_j21 → KP G [41, 42, 43, 13] false f f_j21 → FK [3, 4, 5] f f_j21 u → TR f f_j21 G u (15 - 2 * wb) 0 1 → (mi f u 3 ≤ mi f_j21 u 3 ∧ cdv f_j21 G u - cdv f G u ≤ mi f_j21 u 3 - mi f u 3 ∧ mi f_j21 u 3 ≤ 167 - mi f u 5) → (mi f_j21 u 4 = -1 → mi f_j21 u 5 = mi f u 5 ∧ mi f_j21 u 3 ≤ mi f u 2) → (v_292.toInt ≠ -1 → mi f_j21 u 4 = -1 ∧ mi f_j21 u 3 < mi f u 2) → (mi f_j21 u 2 = mi f u 2) → py_W E (va_A (va_pl L f) s.heap.size) s L_j21 f_j21 H_j21 locs → lv_has ls 2 [(1, .int v_292), (0, .ref u)] → W p l e (headSpec w_X12_sum ({ frames := fr + 1, cells := 0, slots := 0, locals := lo + 60 })).room s m ([.ref u] : List Value).toArray below meth c H_j21 locs 0 0 (MQ below (py_Qv E L f s.heap.size (fun L1 f1 => (mi f u 3 ≤ mi f1 u 3 ∧ cdv f1 G u - cdv f G u ≤ mi f1 u 3 - mi f u 3 ∧ mi f1 u 3 ≤ 167 - mi f u 5) ∧ (mi f1 u 4 = -1 → mi f1 u 5 = mi f u 5 ∧ mi f1 u 3 ≤ mi f u 2) ∧ (TR f f1 G u (15 - 2 * wb) 0 1) ∧ WF E G L1 f1 ∧ KP G [41, 42, 43, 13] false f f1 ∧ FK [3, 4, 5] f f1 u)) ([.ref u] : List Value).toArray s 0 0 (va_A (va_pl L f) s.heap.size)) (F0 m 21 ls []) := by
      intro n_21
      induction n_21 using Nat.strongRecOn with
      | _ n_21 ih_21 =>
        intro v_292 L_j21 f_j21 H_j21 locs ls hn_21 hWF hKP hFK hTR iv0 iv1 iv2 iv3 hw hl
        refine lv_iload_n G0.1 G0.2.1 dX12_sum_21 rfl (lv_at hl 0 rfl) ?_
        refine lv_bipush (v := 43) G0.1 G0.2.1 dX12_sum_22 (by decide) ?_
        refine lv_icmp_eq (tgt := 33) G0.1 G0.2.1 dX12_sum_24 (by decide) (fun c_293 => ?_) (fun c_293 => ?_)
        · skip
          have tc_293 := ti_eq c_293
          replace iv2 := iv2 (by omega)
          refine lv_aload_n G0.1 G0.2.1 dX12_sum_33 rfl (lv_at hl 1 rfl) ?_
          refine lv_dup G0.1 G0.2.1 dX12_sum_34 rfl ?_
          obtain ⟨v_294, v_295, v_296, v_297, v_298, v_299, v_300, v_301, v_302, v_303, v_304, v_305, y_306, v_307, v_308, v_309, v_310, v_311, y_312, v_313, y_314, v_315, hr_328, b_316, b_317, b_318, b_319, b_320, b_321, b_322, b_323, b_324, b_325, b_326, b_327⟩ := wg_12 hWF Tu
          have tq_329 := mi_row hr_328 2 rfl
          have tq_330 := mi_row hr_328 3 rfl
          have bv_296 := wf_free v_296
          have tq_331 := mi_row hr_328 4 rfl
          have bv_297 := wf_free v_297
          have tq_332 := mi_row hr_328 5 rfl
          have bv_298 := wf_free v_298
          have tq_333 := mi_row hr_328 14 rfl
          refine py_get (C := RX12) (T := TX12) (N := 54) (k := 3) (v := .int v_296) G0 hw in_X12_sum_X12 rfl hr_328 (by decide) (by decide +kernel) rfl dX12_sum_35 ?_
          refine lv_iconst (v := 1) G0.1 G0.2.1 dX12_sum_38 (by decide) ?_
          refine lv_iadd G0.1 G0.2.1 dX12_sum_39 ?_
          refine lv_topi (fun x_334 ex_334 => ?_)
          first | have tx_334 := ti_add ex_334 (by omega -splitDisjunctions) (by omega -splitDisjunctions) | skip
          refine py_put (C := RX12) (T := TX12) (N := 54) (k := 3) (v := .int x_334) (fs' := [.int v_294, .ref (G.2 u 1), .int v_295, .int x_334, .int v_297, .int v_298, .ref (G.2 u 6), .ref (G.2 u 7), .ref (G.2 u 8), .ref (G.2 u 9), .ref (G.2 u 10), .ref (G.2 u 11), .ref (G.2 u 12), .int v_299, .int v_300, .ref (G.2 u 15), .ref (G.2 u 16), .ref (G.2 u 17), .ref (G.2 u 18), .int v_301, .int v_302, .ref (G.2 u 21), .ref (G.2 u 22), .ref (G.2 u 23), .int v_303, .int v_304, .ref (G.2 u 26), .ref (G.2 u 27), .ref (G.2 u 28), .int v_305, .long y_306, .int v_307, .int v_308, .int v_309, .int v_310, .ref (G.2 u 35), .ref (G.2 u 36), .ref (G.2 u 37), .ref (G.2 u 38), .ref (G.2 u 39), .ref (G.2 u 40), .ref (G.2 u 41), .ref (G.2 u 42), .int v_311, .ref (G.2 u 44), .ref (G.2 u 45), .ref (G.2 u 46), .ref (G.2 u 47), .long y_312, .ref (G.2 u 49), .ref (G.2 u 50), .int v_313, .long y_314, .int v_315]) (ty0 := tyX12) G0 hw tyX12_ok nmX12 in_X12_sum_X12 rfl hr_328 (by decide) (by decide +kernel) rfl rfl rfl rfl (Nat.le_of_ble_eq_true rfl) rfl dX12_sum_40 (fun f_335 H_336 locs h_337 x_338 hw => ?_)
          have hFK := hFK.put hr_328 h_337 3 (by decide) rfl
          have cq_339 := cdv_own (f1 := f_j21) (f2 := f_335) hG hWF Tu x_338 (by have z1 := mi_row hr_328 14 rfl; have z2 := mi_row h_337 14 rfl; omega)
          have hTR := hTR.own hG hWF Tu x_338 (by have z1 := mi_row hr_328 14 rfl; have z2 := mi_row h_337 14 rfl; omega) (by intro q; have z1 := mi_row hr_328 4 rfl; have z2 := mi_row h_337 4 rfl; omega)
          have hKP := hKP.upd hWF x_338 Tu (Or.inl (by decide))
          have hWF := wf_upd hWF h_337 x_338 (by rw [Tu]; exact ⟨v_294, v_295, x_334, v_297, v_298, v_299, v_300, v_301, v_302, v_303, v_304, v_305, y_306, v_307, v_308, v_309, v_310, v_311, y_312, v_313, y_314, v_315, rfl, ⟨by omega, by omega⟩, ⟨by omega, by omega⟩, ⟨by omega, by omega⟩, ⟨by omega, by omega⟩, ⟨by omega, by omega⟩, ⟨by omega, by omega⟩, ⟨by omega, by omega⟩, ⟨by omega, by omega⟩, ⟨by omega, by omega⟩, ⟨by omega, by omega⟩, ⟨by omega, by omega⟩, ⟨by omega, by omega⟩⟩)
          have tq_340 := mi_row h_337 2 rfl
          have tq_341 := mi_row h_337 3 rfl
          have bx_334 := wf_free x_334
          have tq_342 := mi_row h_337 4 rfl
          have bv_297 := wf_free v_297
          have tq_343 := mi_row h_337 5 rfl
          have bv_298 := wf_free v_298
          have tq_344 := mi_row h_337 14 rfl
          refine lv_aload_n G0.1 G0.2.1 dX12_sum_43 rfl (lv_at hl 1 rfl) ?_
          refine py_callv hw (va_runV (As := []) (rest := []) G0 (ih_term L_j21 f_335 H_336.size u hWF Tu (show mi f_335 u 4 = -1 ∧ wb ≤ mi f_335 u 5 ∧ mi f_335 u 5 ≤ 6 ∧ 0 ≤ mi f_335 u 3 ∧ mi f_335 u 3 ≤ mi f_335 u 2 ∧ cdv f_335 G u ≤ mi f_335 u 3 by omega)) (cwV 0 G0.2.2.2.2 g_X12_sum_X12_term_177 rfl rfl rfl (by decide +kernel) ⟨(show f_term + 1 ≤ fr + 1 by omega), (show 8 + (2 + 11) + l_term ≤ lo + 60 by omega)⟩) (py_preV hw (C := RX12) (T := TX12) (N := 54) rfl h_337) rfl rfl hl.1 rfl (lv_room (Nat.le_of_ble_eq_true rfl)) dX12_sum_44 ⟨(Nat.le_of_ble_eq_true rfl), (Nat.le_of_ble_eq_true rfl)⟩) (fun L_345 f_346 H_347 locs hp_348 hw => ?_)
          obtain ⟨en_350, en_351, en_352, hWF, kp_353, fk_354⟩ := hp_348
          have hFK := hFK.trans fk_354 (by decide)
          have hKP := hKP.trans kp_353 (by decide) (by decide)
          obtain ⟨v_355, v_356, v_357, hr_358⟩ := fk_3_4_5 hWF Tu fk_354 h_337
          have tq_359 := mi_row hr_358 2 rfl
          have tq_360 := mi_row hr_358 3 rfl
          have bv_355 := wf_free v_355
          have tq_361 := mi_row hr_358 4 rfl
          have bv_356 := wf_free v_356
          have tq_362 := mi_row hr_358 5 rfl
          have bv_357 := wf_free v_357
          have tq_363 := mi_row hr_358 14 rfl
          have hTR : TR f f_346 G u (15 - 2 * wb) 0 2 := hTR.trans (en_352.lift (b := 1) (by omega) (by omega) (by omega) (by omega)) (fun q => by omega)
          refine lv_aload_n G0.1 G0.2.1 dX12_sum_47 rfl (lv_at hl 1 rfl) ?_
          refine lv_iload_n G0.1 G0.2.1 dX12_sum_48 rfl (lv_at hl 0 rfl) ?_
          refine lv_bipush (v := 43) G0.1 G0.2.1 dX12_sum_49 (by decide) ?_
          have jn_59 : ∀ (v_364 : Int32) (H_j59 : Heap) (locs : List Loc) (ls : Array Slot), (2 ≤ v_364.toInt ∧ v_364.toInt ≤ 3) → py_W E (va_A (va_pl L f) s.heap.size) s L_345 f_346 H_j59 locs → lv_has ls 2 [(1, .int v_292), (0, .ref u)] → W p l e (headSpec w_X12_sum ({ frames := fr + 1, cells := 0, slots := 0, locals := lo + 60 })).room s m ([.ref u] : List Value).toArray below meth c H_j59 locs 0 0 (MQ below (py_Qv E L f s.heap.size (fun L1 f1 => (mi f u 3 ≤ mi f1 u 3 ∧ cdv f1 G u - cdv f G u ≤ mi f1 u 3 - mi f u 3 ∧ mi f1 u 3 ≤ 167 - mi f u 5) ∧ (mi f1 u 4 = -1 → mi f1 u 5 = mi f u 5 ∧ mi f1 u 3 ≤ mi f u 2) ∧ (TR f f1 G u (15 - 2 * wb) 0 1) ∧ WF E G L1 f1 ∧ KP G [41, 42, 43, 13] false f f1 ∧ FK [3, 4, 5] f f1 u)) ([.ref u] : List Value).toArray s 0 0 (va_A (va_pl L f) s.heap.size)) (F0 m 59 ls [.int v_364, .ref u]) := by
            intro v_364 H_j59 locs ls bv_364 hw hl
            refine lv_iconst (v := 0) G0.1 G0.2.1 dX12_sum_59 (by decide) ?_
            refine py_callv hw (va_runV (As := [.int v_364, .int 0]) (rest := []) G0 (c_X12_put l E G L_345 f_346 H_j59.size u v_364 0 hG hWF Tu (show cdv f_346 G u ≤ 339 by omega)) (cwV 2 G0.2.2.2.2 g_X12_sum_X12_put_156 rfl rfl rfl (by decide +kernel) ⟨(show 0 + 1 ≤ fr + 1 by omega), (show 8 + (3 + 11) + 0 ≤ lo + 60 by omega)⟩) (py_preV hw (C := RX12) (T := TX12) (N := 54) rfl hr_358) rfl rfl hl.1 rfl (lv_room (Nat.le_of_ble_eq_true rfl)) dX12_sum_60 ⟨(Nat.le_of_ble_eq_true rfl), (Nat.le_of_ble_eq_true rfl)⟩) (fun L_365 f_366 H_367 locs hp_368 hw => ?_)
            obtain ⟨en_370, en_371, hWF, kp_372, fk_373⟩ := hp_368
            have en_370 : PT f_346 f_366 G u v_364 (0 : Int32) := en_370
            have hFK := hFK.trans fk_373 (by decide)
            have hKP := hKP.trans kp_372 (by decide) (by decide)
            have hr_358 := kp_at kp_372 hWF Tu (by decide) (by decide) (by decide) hr_358
            have tq_374 := mi_row hr_358 2 rfl
            have tq_375 := mi_row hr_358 3 rfl
            have bv_355 := wf_free v_355
            have tq_376 := mi_row hr_358 4 rfl
            have bv_356 := wf_free v_356
            have tq_377 := mi_row hr_358 5 rfl
            have bv_357 := wf_free v_357
            have tq_378 := mi_row hr_358 14 rfl
            have hTR : TR f f_366 G u (15 - 2 * wb) 0 1 := hTR.trans (en_370.tr (by omega)) (fun q => by omega)
            refine lv_aload_n G0.1 G0.2.1 dX12_sum_63 rfl (lv_at hl 1 rfl) ?_
            refine py_get (C := RX12) (T := TX12) (N := 54) (k := 4) (v := .int v_356) G0 hw in_X12_sum_X12 rfl hr_358 (by decide) (by decide +kernel) rfl dX12_sum_64 ?_
            refine lv_iconst (v := (-1)) G0.1 G0.2.1 dX12_sum_67 (by decide) ?_
            refine lv_icmp_ne (tgt := 78) G0.1 G0.2.1 dX12_sum_68 (by decide) (fun c_379 => ?_) (fun c_379 => ?_)
            · skip
              have tc_379 := ti_ne c_379
              clear en_351
              refine lv_iconst (v := (-1)) G0.1 G0.2.1 dX12_sum_78 (by decide) ?_
              refine lv_istore_n (lv' := [(1, .int (-1)), (0, .ref u)]) G0.1 G0.2.1 dX12_sum_79 rfl hl (by decide) rfl (fun ls hl => ?_)
              refine lv_goto (tgt := 21) G0.1 G0.2.1 dX12_sum_80 (by decide) ?_
              exact ih_21 ((mi f u 2 - mi f_366 u 3).toNat) (by omega) (-1) L_365 f_366 _ _ ls rfl hWF hKP hFK hTR (by first | omega | (intros; omega)) (by first | omega | (intros; omega)) (by first | omega | (intros; omega)) (by first | omega | (intros; omega)) hw (lv_sub hl [0, 1] rfl)
            · skip
              have tc_379 := ti_eq c_379
              replace en_351 := en_351 (by omega)
              refine lv_aload_n G0.1 G0.2.1 dX12_sum_71 rfl (lv_at hl 1 rfl) ?_
              refine py_calli hw (va_runV (As := []) (rest := []) G0 (c_X12_look l E G L_365 f_366 H_367.size u hG hWF Tu (show 0 ≤ mi f_366 u 3 ∧ mi f_366 u 3 ≤ mi f_366 u 2 by omega)) (cwV 0 G0.2.2.2.2 g_X12_sum_X12_look_146 rfl rfl rfl (by decide +kernel) ⟨(show 1 + 1 ≤ fr + 1 by omega), (show 8 + (1 + 11) + 20 ≤ lo + 60 by omega)⟩) (py_preV hw (C := RX12) (T := TX12) (N := 54) rfl hr_358) rfl rfl hl.1 rfl (lv_room (Nat.le_of_ble_eq_true rfl)) dX12_sum_72 ⟨(Nat.le_of_ble_eq_true rfl), (Nat.le_of_ble_eq_true rfl)⟩) (fun r_384 L_380 f_381 H_382 locs hp_383 hw => ?_)
              obtain ⟨en_385, en_386, en_387, hWF, kp_388, fk_389⟩ := hp_383
              have cq_390 := cdv_k hG Tu kp_388 fk_389 (by decide)
              have hFK := hFK.trans fk_389 (by decide)
              have hKP := hKP.trans kp_388 (by decide) (by decide)
              obtain ⟨v_391, hr_392⟩ := fk_3 hWF Tu fk_389 hr_358
              have tq_393 := mi_row hr_392 2 rfl
              have tq_394 := mi_row hr_392 3 rfl
              have bv_391 := wf_free v_391
              have tq_395 := mi_row hr_392 4 rfl
              have bv_356 := wf_free v_356
              have tq_396 := mi_row hr_392 5 rfl
              have bv_357 := wf_free v_357
              have tq_397 := mi_row hr_392 14 rfl
              have hTR := hTR.kp hG Tu kp_388 fk_389 (by decide) (fun q => by omega)
              have br_384 := wf_free r_384
              refine lv_goto (tgt := 79) G0.1 G0.2.1 dX12_sum_75 (by decide) ?_
              refine lv_istore_n (lv' := [(1, .int r_384), (0, .ref u)]) G0.1 G0.2.1 dX12_sum_79 rfl hl (by decide) rfl (fun ls hl => ?_)
              refine lv_goto (tgt := 21) G0.1 G0.2.1 dX12_sum_80 (by decide) ?_
              exact ih_21 ((mi f u 2 - mi f_381 u 3).toNat) (by omega) r_384 L_380 f_381 _ _ ls rfl hWF hKP hFK hTR (by first | omega | (intros; omega)) (by first | omega | (intros; omega)) (by first | omega | (intros; omega)) (by first | omega | (intros; omega)) hw (lv_sub hl [0, 1] rfl)
          refine lv_icmp_ne (tgt := 58) G0.1 G0.2.1 dX12_sum_51 (by decide) (fun c_398 => ?_) (fun c_398 => ?_)
          · skip
            have tc_398 := ti_ne c_398
            refine lv_iconst (v := 3) G0.1 G0.2.1 dX12_sum_58 (by decide) ?_
            exact jn_59 3 _ _ ls ⟨by omega, by omega⟩ hw (lv_sub hl [0, 1] rfl)
          · skip
            have tc_398 := ti_eq c_398
            refine lv_iconst (v := 2) G0.1 G0.2.1 dX12_sum_54 (by decide) ?_
            refine lv_goto (tgt := 59) G0.1 G0.2.1 dX12_sum_55 (by decide) ?_
            exact jn_59 2 _ _ ls ⟨by omega, by omega⟩ hw (lv_sub hl [0, 1] rfl)
        · skip
          have tc_293 := ti_ne c_293
          refine lv_iload_n G0.1 G0.2.1 dX12_sum_27 rfl (lv_at hl 0 rfl) ?_
          refine lv_bipush (v := 45) G0.1 G0.2.1 dX12_sum_28 (by decide) ?_
          refine lv_icmp_ne (tgt := 83) G0.1 G0.2.1 dX12_sum_30 (by decide) (fun c_399 => ?_) (fun c_399 => ?_)
          · skip
            have tc_399 := ti_ne c_399
            exact py_vret G0 hr hlk hw ⟨(by first | omega | (intro q; omega)), (by first | omega | (intro q; omega)), hTR, hWF, hKP, hFK⟩ dX12_sum_83
          · skip
            have tc_399 := ti_eq c_399
            replace iv2 := iv2 (by omega)
            refine lv_aload_n G0.1 G0.2.1 dX12_sum_33 rfl (lv_at hl 1 rfl) ?_
            refine lv_dup G0.1 G0.2.1 dX12_sum_34 rfl ?_
            obtain ⟨v_400, v_401, v_402, v_403, v_404, v_405, v_406, v_407, v_408, v_409, v_410, v_411, y_412, v_413, v_414, v_415, v_416, v_417, y_418, v_419, y_420, v_421, hr_434, b_422, b_423, b_424, b_425, b_426, b_427, b_428, b_429, b_430, b_431, b_432, b_433⟩ := wg_12 hWF Tu
            have tq_435 := mi_row hr_434 2 rfl
            have tq_436 := mi_row hr_434 3 rfl
            have bv_402 := wf_free v_402
            have tq_437 := mi_row hr_434 4 rfl
            have bv_403 := wf_free v_403
            have tq_438 := mi_row hr_434 5 rfl
            have bv_404 := wf_free v_404
            have tq_439 := mi_row hr_434 14 rfl
            refine py_get (C := RX12) (T := TX12) (N := 54) (k := 3) (v := .int v_402) G0 hw in_X12_sum_X12 rfl hr_434 (by decide) (by decide +kernel) rfl dX12_sum_35 ?_
            refine lv_iconst (v := 1) G0.1 G0.2.1 dX12_sum_38 (by decide) ?_
            refine lv_iadd G0.1 G0.2.1 dX12_sum_39 ?_
            refine lv_topi (fun x_440 ex_440 => ?_)
            first | have tx_440 := ti_add ex_440 (by omega -splitDisjunctions) (by omega -splitDisjunctions) | skip
            refine py_put (C := RX12) (T := TX12) (N := 54) (k := 3) (v := .int x_440) (fs' := [.int v_400, .ref (G.2 u 1), .int v_401, .int x_440, .int v_403, .int v_404, .ref (G.2 u 6), .ref (G.2 u 7), .ref (G.2 u 8), .ref (G.2 u 9), .ref (G.2 u 10), .ref (G.2 u 11), .ref (G.2 u 12), .int v_405, .int v_406, .ref (G.2 u 15), .ref (G.2 u 16), .ref (G.2 u 17), .ref (G.2 u 18), .int v_407, .int v_408, .ref (G.2 u 21), .ref (G.2 u 22), .ref (G.2 u 23), .int v_409, .int v_410, .ref (G.2 u 26), .ref (G.2 u 27), .ref (G.2 u 28), .int v_411, .long y_412, .int v_413, .int v_414, .int v_415, .int v_416, .ref (G.2 u 35), .ref (G.2 u 36), .ref (G.2 u 37), .ref (G.2 u 38), .ref (G.2 u 39), .ref (G.2 u 40), .ref (G.2 u 41), .ref (G.2 u 42), .int v_417, .ref (G.2 u 44), .ref (G.2 u 45), .ref (G.2 u 46), .ref (G.2 u 47), .long y_418, .ref (G.2 u 49), .ref (G.2 u 50), .int v_419, .long y_420, .int v_421]) (ty0 := tyX12) G0 hw tyX12_ok nmX12 in_X12_sum_X12 rfl hr_434 (by decide) (by decide +kernel) rfl rfl rfl rfl (Nat.le_of_ble_eq_true rfl) rfl dX12_sum_40 (fun f_441 H_442 locs h_443 x_444 hw => ?_)
            have hFK := hFK.put hr_434 h_443 3 (by decide) rfl
            have cq_445 := cdv_own (f1 := f_j21) (f2 := f_441) hG hWF Tu x_444 (by have z1 := mi_row hr_434 14 rfl; have z2 := mi_row h_443 14 rfl; omega)
            have hTR := hTR.own hG hWF Tu x_444 (by have z1 := mi_row hr_434 14 rfl; have z2 := mi_row h_443 14 rfl; omega) (by intro q; have z1 := mi_row hr_434 4 rfl; have z2 := mi_row h_443 4 rfl; omega)
            have hKP := hKP.upd hWF x_444 Tu (Or.inl (by decide))
            have hWF := wf_upd hWF h_443 x_444 (by rw [Tu]; exact ⟨v_400, v_401, x_440, v_403, v_404, v_405, v_406, v_407, v_408, v_409, v_410, v_411, y_412, v_413, v_414, v_415, v_416, v_417, y_418, v_419, y_420, v_421, rfl, ⟨by omega, by omega⟩, ⟨by omega, by omega⟩, ⟨by omega, by omega⟩, ⟨by omega, by omega⟩, ⟨by omega, by omega⟩, ⟨by omega, by omega⟩, ⟨by omega, by omega⟩, ⟨by omega, by omega⟩, ⟨by omega, by omega⟩, ⟨by omega, by omega⟩, ⟨by omega, by omega⟩, ⟨by omega, by omega⟩⟩)
            have tq_446 := mi_row h_443 2 rfl
            have tq_447 := mi_row h_443 3 rfl
            have bx_440 := wf_free x_440
            have tq_448 := mi_row h_443 4 rfl
            have bv_403 := wf_free v_403
            have tq_449 := mi_row h_443 5 rfl
            have bv_404 := wf_free v_404
            have tq_450 := mi_row h_443 14 rfl
            refine lv_aload_n G0.1 G0.2.1 dX12_sum_43 rfl (lv_at hl 1 rfl) ?_
            refine py_callv hw (va_runV (As := []) (rest := []) G0 (ih_term L_j21 f_441 H_442.size u hWF Tu (show mi f_441 u 4 = -1 ∧ wb ≤ mi f_441 u 5 ∧ mi f_441 u 5 ≤ 6 ∧ 0 ≤ mi f_441 u 3 ∧ mi f_441 u 3 ≤ mi f_441 u 2 ∧ cdv f_441 G u ≤ mi f_441 u 3 by omega)) (cwV 0 G0.2.2.2.2 g_X12_sum_X12_term_177 rfl rfl rfl (by decide +kernel) ⟨(show f_term + 1 ≤ fr + 1 by omega), (show 8 + (2 + 11) + l_term ≤ lo + 60 by omega)⟩) (py_preV hw (C := RX12) (T := TX12) (N := 54) rfl h_443) rfl rfl hl.1 rfl (lv_room (Nat.le_of_ble_eq_true rfl)) dX12_sum_44 ⟨(Nat.le_of_ble_eq_true rfl), (Nat.le_of_ble_eq_true rfl)⟩) (fun L_451 f_452 H_453 locs hp_454 hw => ?_)
            obtain ⟨en_456, en_457, en_458, hWF, kp_459, fk_460⟩ := hp_454
            have hFK := hFK.trans fk_460 (by decide)
            have hKP := hKP.trans kp_459 (by decide) (by decide)
            obtain ⟨v_461, v_462, v_463, hr_464⟩ := fk_3_4_5 hWF Tu fk_460 h_443
            have tq_465 := mi_row hr_464 2 rfl
            have tq_466 := mi_row hr_464 3 rfl
            have bv_461 := wf_free v_461
            have tq_467 := mi_row hr_464 4 rfl
            have bv_462 := wf_free v_462
            have tq_468 := mi_row hr_464 5 rfl
            have bv_463 := wf_free v_463
            have tq_469 := mi_row hr_464 14 rfl
            have hTR : TR f f_452 G u (15 - 2 * wb) 0 2 := hTR.trans (en_458.lift (b := 1) (by omega) (by omega) (by omega) (by omega)) (fun q => by omega)
            refine lv_aload_n G0.1 G0.2.1 dX12_sum_47 rfl (lv_at hl 1 rfl) ?_
            refine lv_iload_n G0.1 G0.2.1 dX12_sum_48 rfl (lv_at hl 0 rfl) ?_
            refine lv_bipush (v := 43) G0.1 G0.2.1 dX12_sum_49 (by decide) ?_
            have jn_59 : ∀ (v_470 : Int32) (H_j59 : Heap) (locs : List Loc) (ls : Array Slot), (2 ≤ v_470.toInt ∧ v_470.toInt ≤ 3) → py_W E (va_A (va_pl L f) s.heap.size) s L_451 f_452 H_j59 locs → lv_has ls 2 [(1, .int v_292), (0, .ref u)] → W p l e (headSpec w_X12_sum ({ frames := fr + 1, cells := 0, slots := 0, locals := lo + 60 })).room s m ([.ref u] : List Value).toArray below meth c H_j59 locs 0 0 (MQ below (py_Qv E L f s.heap.size (fun L1 f1 => (mi f u 3 ≤ mi f1 u 3 ∧ cdv f1 G u - cdv f G u ≤ mi f1 u 3 - mi f u 3 ∧ mi f1 u 3 ≤ 167 - mi f u 5) ∧ (mi f1 u 4 = -1 → mi f1 u 5 = mi f u 5 ∧ mi f1 u 3 ≤ mi f u 2) ∧ (TR f f1 G u (15 - 2 * wb) 0 1) ∧ WF E G L1 f1 ∧ KP G [41, 42, 43, 13] false f f1 ∧ FK [3, 4, 5] f f1 u)) ([.ref u] : List Value).toArray s 0 0 (va_A (va_pl L f) s.heap.size)) (F0 m 59 ls [.int v_470, .ref u]) := by
              intro v_470 H_j59 locs ls bv_470 hw hl
              refine lv_iconst (v := 0) G0.1 G0.2.1 dX12_sum_59 (by decide) ?_
              refine py_callv hw (va_runV (As := [.int v_470, .int 0]) (rest := []) G0 (c_X12_put l E G L_451 f_452 H_j59.size u v_470 0 hG hWF Tu (show cdv f_452 G u ≤ 339 by omega)) (cwV 2 G0.2.2.2.2 g_X12_sum_X12_put_156 rfl rfl rfl (by decide +kernel) ⟨(show 0 + 1 ≤ fr + 1 by omega), (show 8 + (3 + 11) + 0 ≤ lo + 60 by omega)⟩) (py_preV hw (C := RX12) (T := TX12) (N := 54) rfl hr_464) rfl rfl hl.1 rfl (lv_room (Nat.le_of_ble_eq_true rfl)) dX12_sum_60 ⟨(Nat.le_of_ble_eq_true rfl), (Nat.le_of_ble_eq_true rfl)⟩) (fun L_471 f_472 H_473 locs hp_474 hw => ?_)
              obtain ⟨en_476, en_477, hWF, kp_478, fk_479⟩ := hp_474
              have en_476 : PT f_452 f_472 G u v_470 (0 : Int32) := en_476
              have hFK := hFK.trans fk_479 (by decide)
              have hKP := hKP.trans kp_478 (by decide) (by decide)
              have hr_464 := kp_at kp_478 hWF Tu (by decide) (by decide) (by decide) hr_464
              have tq_480 := mi_row hr_464 2 rfl
              have tq_481 := mi_row hr_464 3 rfl
              have bv_461 := wf_free v_461
              have tq_482 := mi_row hr_464 4 rfl
              have bv_462 := wf_free v_462
              have tq_483 := mi_row hr_464 5 rfl
              have bv_463 := wf_free v_463
              have tq_484 := mi_row hr_464 14 rfl
              have hTR : TR f f_472 G u (15 - 2 * wb) 0 1 := hTR.trans (en_476.tr (by omega)) (fun q => by omega)
              refine lv_aload_n G0.1 G0.2.1 dX12_sum_63 rfl (lv_at hl 1 rfl) ?_
              refine py_get (C := RX12) (T := TX12) (N := 54) (k := 4) (v := .int v_462) G0 hw in_X12_sum_X12 rfl hr_464 (by decide) (by decide +kernel) rfl dX12_sum_64 ?_
              refine lv_iconst (v := (-1)) G0.1 G0.2.1 dX12_sum_67 (by decide) ?_
              refine lv_icmp_ne (tgt := 78) G0.1 G0.2.1 dX12_sum_68 (by decide) (fun c_485 => ?_) (fun c_485 => ?_)
              · skip
                have tc_485 := ti_ne c_485
                clear en_457
                refine lv_iconst (v := (-1)) G0.1 G0.2.1 dX12_sum_78 (by decide) ?_
                refine lv_istore_n (lv' := [(1, .int (-1)), (0, .ref u)]) G0.1 G0.2.1 dX12_sum_79 rfl hl (by decide) rfl (fun ls hl => ?_)
                refine lv_goto (tgt := 21) G0.1 G0.2.1 dX12_sum_80 (by decide) ?_
                exact ih_21 ((mi f u 2 - mi f_472 u 3).toNat) (by omega) (-1) L_471 f_472 _ _ ls rfl hWF hKP hFK hTR (by first | omega | (intros; omega)) (by first | omega | (intros; omega)) (by first | omega | (intros; omega)) (by first | omega | (intros; omega)) hw (lv_sub hl [0, 1] rfl)
              · skip
                have tc_485 := ti_eq c_485
                replace en_457 := en_457 (by omega)
                refine lv_aload_n G0.1 G0.2.1 dX12_sum_71 rfl (lv_at hl 1 rfl) ?_
                refine py_calli hw (va_runV (As := []) (rest := []) G0 (c_X12_look l E G L_471 f_472 H_473.size u hG hWF Tu (show 0 ≤ mi f_472 u 3 ∧ mi f_472 u 3 ≤ mi f_472 u 2 by omega)) (cwV 0 G0.2.2.2.2 g_X12_sum_X12_look_146 rfl rfl rfl (by decide +kernel) ⟨(show 1 + 1 ≤ fr + 1 by omega), (show 8 + (1 + 11) + 20 ≤ lo + 60 by omega)⟩) (py_preV hw (C := RX12) (T := TX12) (N := 54) rfl hr_464) rfl rfl hl.1 rfl (lv_room (Nat.le_of_ble_eq_true rfl)) dX12_sum_72 ⟨(Nat.le_of_ble_eq_true rfl), (Nat.le_of_ble_eq_true rfl)⟩) (fun r_490 L_486 f_487 H_488 locs hp_489 hw => ?_)
                obtain ⟨en_491, en_492, en_493, hWF, kp_494, fk_495⟩ := hp_489
                have cq_496 := cdv_k hG Tu kp_494 fk_495 (by decide)
                have hFK := hFK.trans fk_495 (by decide)
                have hKP := hKP.trans kp_494 (by decide) (by decide)
                obtain ⟨v_497, hr_498⟩ := fk_3 hWF Tu fk_495 hr_464
                have tq_499 := mi_row hr_498 2 rfl
                have tq_500 := mi_row hr_498 3 rfl
                have bv_497 := wf_free v_497
                have tq_501 := mi_row hr_498 4 rfl
                have bv_462 := wf_free v_462
                have tq_502 := mi_row hr_498 5 rfl
                have bv_463 := wf_free v_463
                have tq_503 := mi_row hr_498 14 rfl
                have hTR := hTR.kp hG Tu kp_494 fk_495 (by decide) (fun q => by omega)
                have br_490 := wf_free r_490
                refine lv_goto (tgt := 79) G0.1 G0.2.1 dX12_sum_75 (by decide) ?_
                refine lv_istore_n (lv' := [(1, .int r_490), (0, .ref u)]) G0.1 G0.2.1 dX12_sum_79 rfl hl (by decide) rfl (fun ls hl => ?_)
                refine lv_goto (tgt := 21) G0.1 G0.2.1 dX12_sum_80 (by decide) ?_
                exact ih_21 ((mi f u 2 - mi f_487 u 3).toNat) (by omega) r_490 L_486 f_487 _ _ ls rfl hWF hKP hFK hTR (by first | omega | (intros; omega)) (by first | omega | (intros; omega)) (by first | omega | (intros; omega)) (by first | omega | (intros; omega)) hw (lv_sub hl [0, 1] rfl)
            refine lv_icmp_ne (tgt := 58) G0.1 G0.2.1 dX12_sum_51 (by decide) (fun c_504 => ?_) (fun c_504 => ?_)
            · skip
              have tc_504 := ti_ne c_504
              refine lv_iconst (v := 3) G0.1 G0.2.1 dX12_sum_58 (by decide) ?_
              exact jn_59 3 _ _ ls ⟨by omega, by omega⟩ hw (lv_sub hl [0, 1] rfl)
            · skip
              have tc_504 := ti_eq c_504
              refine lv_iconst (v := 2) G0.1 G0.2.1 dX12_sum_54 (by decide) ?_
              refine lv_goto (tgt := 59) G0.1 G0.2.1 dX12_sum_55 (by decide) ?_
              exact jn_59 2 _ _ ls ⟨by omega, by omega⟩ hw (lv_sub hl [0, 1] rfl)
    exact lo_21 _ r_278 L_274 f_275 _ _ ls rfl hWF hKP hFK hTR (by first | omega | (intros; omega)) (by first | omega | (intros; omega)) (by first | omega | (intros; omega)) (by first | omega | (intros; omega)) hw (lv_sub hl [0, 1] rfl)

set_option maxHeartbeats 4000000 in
set_option maxRecDepth 100000 in
theorem q_compare (l : Launch) (E : py_E) (G : wf_G) (hG : GT G) (wb : Int) (hwb : 0 ≤ wb) (fr lo : Nat) (hfr : 10 ≤ fr) (hlo : 300 ≤ lo) (f_sum l_sum : Nat) (x_sum : f_sum ≤ fr) (z_sum : l_sum ≤ lo) (ih_sum : Q_sum l E G wb f_sum l_sum) : Q_compare l E G wb (fr + 1) (lo + 60) := by
  intro L f sz u hWF Tu hp0
  refine Met.ofW (cc := cX12_compare) (maxL := 2) (ret := none) (by decide) rfl ?_
  intro p e s m args below meth c s₁ B hml hv
  obtain ⟨rfl, rfl, hw⟩ := py_start hv
  have G0 : CallFix p m c cX12_compare 2 s _ w_X12_compare RX12 := ⟨B.exec, B.bytes, hml, findClass_of_methodNamed B.named, atoms_spec (ws := w_X12_compare) B.pre⟩
  have hr := B.returns
  have hlk := B.notSynchronized
  have kcm1 : (-1 : Int32).toInt = -1 := rfl
  have kc0 : (0 : Int32).toInt = 0 := rfl
  have kc1 : (1 : Int32).toInt = 1 := rfl
  have kc6 : (6 : Int32).toInt = 6 := rfl
  have kc7 : (7 : Int32).toInt = 7 := rfl
  have kc8 : (8 : Int32).toInt = 8 := rfl
  have kc60 : (60 : Int32).toInt = 60 := rfl
  have kc61 : (61 : Int32).toInt = 61 := rfl
  have hl := lv_entry ([.ref u]) (n := 2) (Nat.le_of_ble_eq_true rfl)
  rw [lg_entry_eq]
  generalize (lg_sl ([.ref u]) ++ List.replicate (2 - (lg_sl ([.ref u])).length) Slot.unset).toArray = ls at hl ⊢
  have hl : lv_has ls 2 [(0, .ref u)] := hl
  have hKP : KP G [41, 42, 43, 13] false f f := KP.refl
  have hFK : FK [3, 4, 5] f f u := FK.refl
  obtain ⟨v_1, v_2, v_3, v_4, v_5, v_6, v_7, v_8, v_9, v_10, v_11, v_12, y_13, v_14, v_15, v_16, v_17, v_18, y_19, v_20, y_21, v_22, hr_35, b_23, b_24, b_25, b_26, b_27, b_28, b_29, b_30, b_31, b_32, b_33, b_34⟩ := wg_12 hWF Tu
  have tq_36 := mi_row hr_35 2 rfl
  have tq_37 := mi_row hr_35 3 rfl
  have bv_3 := wf_free v_3
  have tq_38 := mi_row hr_35 4 rfl
  have bv_4 := wf_free v_4
  have tq_39 := mi_row hr_35 5 rfl
  have bv_5 := wf_free v_5
  have tq_40 := mi_row hr_35 14 rfl
  have hcd := cdv_rng hG hWF Tu (by omega) (by omega)
  have hTR : TR f f G u (16 - 2 * wb) 1 1 := TR.refl (by omega) (by omega)
  refine lv_aload_n G0.1 G0.2.1 dX12_compare_0 rfl (lv_at hl 0 rfl) ?_
  refine py_get (C := RX12) (T := TX12) (N := 54) (k := 4) (v := .int v_4) G0 hw in_X12_compare_X12 rfl hr_35 (by decide) (by decide +kernel) rfl dX12_compare_1 ?_
  refine lv_iconst (v := (-1)) G0.1 G0.2.1 dX12_compare_4 (by decide) ?_
  refine lv_icmp_ne (tgt := 15) G0.1 G0.2.1 dX12_compare_5 (by decide) (fun c_41 => ?_) (fun c_41 => ?_)
  · skip
    have tc_41 := ti_ne c_41
    refine lv_iconst (v := (-1)) G0.1 G0.2.1 dX12_compare_15 (by decide) ?_
    refine lv_istore_n (lv' := [(1, .int (-1)), (0, .ref u)]) G0.1 G0.2.1 dX12_compare_16 rfl hl (by decide) rfl (fun ls hl => ?_)
    refine lv_iload_n G0.1 G0.2.1 dX12_compare_17 rfl (lv_at hl 0 rfl) ?_
    refine py_calli hw (va_runS (As := [.int (-1)]) (rest := []) G0 (c_X12_isSign l E G L f s.heap.size (-1) hG hWF) (va_cwS 1 G0.2.2.2.2 g_X12_compare_X12_isSign_180 rfl rfl rfl (by decide +kernel) ⟨(show 0 + 1 ≤ fr + 1 by omega), (show 8 + (1 + 11) + 0 ≤ lo + 60 by omega)⟩) (py_preS hw) rfl rfl hl.1 rfl (lv_room (Nat.le_of_ble_eq_true rfl)) dX12_compare_18 ⟨(Nat.le_of_ble_eq_true rfl), (Nat.le_of_ble_eq_true rfl)⟩) (fun r_46 L_42 f_43 H_44 locs hp_45 hw => ?_)
    obtain ⟨b_48, en_47, rfl, rfl⟩ := hp_45
    have en_47 : r_46.toInt ≠ 0 → ((-1) : Int) ≠ -1 := en_47
    refine lv_if_ne (tgt := 29) G0.1 G0.2.1 dX12_compare_21 (by decide) (fun c_49 => ?_) (fun c_49 => ?_)
    · skip
      have tc_49 := ti_ne c_49
      replace en_47 := en_47 (by omega)
      refine lv_aload_n G0.1 G0.2.1 dX12_compare_29 rfl (lv_at hl 1 rfl) ?_
      refine lv_dup G0.1 G0.2.1 dX12_compare_30 rfl ?_
      refine py_get (C := RX12) (T := TX12) (N := 54) (k := 3) (v := .int v_3) G0 hw in_X12_compare_X12 rfl hr_35 (by decide) (by decide +kernel) rfl dX12_compare_31 ?_
      refine lv_iconst (v := 1) G0.1 G0.2.1 dX12_compare_34 (by decide) ?_
      refine lv_iadd G0.1 G0.2.1 dX12_compare_35 ?_
      refine lv_topi (fun x_50 ex_50 => ?_)
      first | have tx_50 := ti_add ex_50 (by omega -splitDisjunctions) (by omega -splitDisjunctions) | skip
      refine py_put (C := RX12) (T := TX12) (N := 54) (k := 3) (v := .int x_50) (fs' := [.int v_1, .ref (G.2 u 1), .int v_2, .int x_50, .int v_4, .int v_5, .ref (G.2 u 6), .ref (G.2 u 7), .ref (G.2 u 8), .ref (G.2 u 9), .ref (G.2 u 10), .ref (G.2 u 11), .ref (G.2 u 12), .int v_6, .int v_7, .ref (G.2 u 15), .ref (G.2 u 16), .ref (G.2 u 17), .ref (G.2 u 18), .int v_8, .int v_9, .ref (G.2 u 21), .ref (G.2 u 22), .ref (G.2 u 23), .int v_10, .int v_11, .ref (G.2 u 26), .ref (G.2 u 27), .ref (G.2 u 28), .int v_12, .long y_13, .int v_14, .int v_15, .int v_16, .int v_17, .ref (G.2 u 35), .ref (G.2 u 36), .ref (G.2 u 37), .ref (G.2 u 38), .ref (G.2 u 39), .ref (G.2 u 40), .ref (G.2 u 41), .ref (G.2 u 42), .int v_18, .ref (G.2 u 44), .ref (G.2 u 45), .ref (G.2 u 46), .ref (G.2 u 47), .long y_19, .ref (G.2 u 49), .ref (G.2 u 50), .int v_20, .long y_21, .int v_22]) (ty0 := tyX12) G0 hw tyX12_ok nmX12 in_X12_compare_X12 rfl hr_35 (by decide) (by decide +kernel) rfl rfl rfl rfl (Nat.le_of_ble_eq_true rfl) rfl dX12_compare_36 (fun f_51 H_52 locs h_53 x_54 hw => ?_)
      have hFK := hFK.put hr_35 h_53 3 (by decide) rfl
      have cq_55 := cdv_own (f1 := f) (f2 := f_51) hG hWF Tu x_54 (by have z1 := mi_row hr_35 14 rfl; have z2 := mi_row h_53 14 rfl; omega)
      have hTR := hTR.own hG hWF Tu x_54 (by have z1 := mi_row hr_35 14 rfl; have z2 := mi_row h_53 14 rfl; omega) (by intro q; have z1 := mi_row hr_35 4 rfl; have z2 := mi_row h_53 4 rfl; omega)
      have hKP := hKP.upd hWF x_54 Tu (Or.inl (by decide))
      have hWF := wf_upd hWF h_53 x_54 (by rw [Tu]; exact ⟨v_1, v_2, x_50, v_4, v_5, v_6, v_7, v_8, v_9, v_10, v_11, v_12, y_13, v_14, v_15, v_16, v_17, v_18, y_19, v_20, y_21, v_22, rfl, ⟨by omega, by omega⟩, ⟨by omega, by omega⟩, ⟨by omega, by omega⟩, ⟨by omega, by omega⟩, ⟨by omega, by omega⟩, ⟨by omega, by omega⟩, ⟨by omega, by omega⟩, ⟨by omega, by omega⟩, ⟨by omega, by omega⟩, ⟨by omega, by omega⟩, ⟨by omega, by omega⟩, ⟨by omega, by omega⟩⟩)
      have tq_56 := mi_row h_53 2 rfl
      have tq_57 := mi_row h_53 3 rfl
      have bx_50 := wf_free x_50
      have tq_58 := mi_row h_53 4 rfl
      have bv_4 := wf_free v_4
      have tq_59 := mi_row h_53 5 rfl
      have bv_5 := wf_free v_5
      have tq_60 := mi_row h_53 14 rfl
      refine lv_aload_n G0.1 G0.2.1 dX12_compare_39 rfl (lv_at hl 1 rfl) ?_
      refine py_callv hw (va_runV (As := []) (rest := []) G0 (ih_sum L f_51 H_52.size u hWF Tu (show mi f_51 u 4 = -1 ∧ wb ≤ mi f_51 u 5 ∧ mi f_51 u 5 ≤ 6 ∧ 0 ≤ mi f_51 u 3 ∧ mi f_51 u 3 ≤ mi f_51 u 2 ∧ cdv f_51 G u ≤ mi f_51 u 3 by omega)) (cwV 0 G0.2.2.2.2 g_X12_compare_X12_sum_167 rfl rfl rfl (by decide +kernel) ⟨(show f_sum + 1 ≤ fr + 1 by omega), (show 8 + (2 + 11) + l_sum ≤ lo + 60 by omega)⟩) (py_preV hw (C := RX12) (T := TX12) (N := 54) rfl h_53) rfl rfl hl.1 rfl (lv_room (Nat.le_of_ble_eq_true rfl)) dX12_compare_40 ⟨(Nat.le_of_ble_eq_true rfl), (Nat.le_of_ble_eq_true rfl)⟩) (fun L_61 f_62 H_63 locs hp_64 hw => ?_)
      obtain ⟨en_66, en_67, en_68, hWF, kp_69, fk_70⟩ := hp_64
      have hFK := hFK.trans fk_70 (by decide)
      have hKP := hKP.trans kp_69 (by decide) (by decide)
      obtain ⟨v_71, v_72, v_73, hr_74⟩ := fk_3_4_5 hWF Tu fk_70 h_53
      have tq_75 := mi_row hr_74 2 rfl
      have tq_76 := mi_row hr_74 3 rfl
      have bv_71 := wf_free v_71
      have tq_77 := mi_row hr_74 4 rfl
      have bv_72 := wf_free v_72
      have tq_78 := mi_row hr_74 5 rfl
      have bv_73 := wf_free v_73
      have tq_79 := mi_row hr_74 14 rfl
      have hTR : TR f f_62 G u (16 - 2 * wb) 1 2 := hTR.trans (en_68.lift (b := 1) (by omega) (by omega) (by omega) (by omega)) (fun q => by omega)
      refine lv_aload_n G0.1 G0.2.1 dX12_compare_43 rfl (lv_at hl 1 rfl) ?_
      refine lv_iload_n G0.1 G0.2.1 dX12_compare_44 rfl (lv_at hl 0 rfl) ?_
      refine lv_bipush (v := 61) G0.1 G0.2.1 dX12_compare_45 (by decide) ?_
      refine lv_icmp_ne (tgt := 55) G0.1 G0.2.1 dX12_compare_47 (by decide) (fun c_80 => ?_) (fun c_80 => ?_)
      · skip
        have tc_80 := ti_ne c_80
        refine lv_iload_n G0.1 G0.2.1 dX12_compare_55 rfl (lv_at hl 0 rfl) ?_
        refine lv_bipush (v := 60) G0.1 G0.2.1 dX12_compare_56 (by decide) ?_
        refine lv_icmp_ne (tgt := 66) G0.1 G0.2.1 dX12_compare_58 (by decide) (fun c_81 => ?_) (fun c_81 => ?_)
        · skip
          have tc_81 := ti_ne c_81
          refine lv_bipush (v := 8) G0.1 G0.2.1 dX12_compare_66 (by decide) ?_
          refine lv_iconst (v := 0) G0.1 G0.2.1 dX12_compare_68 (by decide) ?_
          refine py_callv hw (va_runV (As := [.int 8, .int 0]) (rest := []) G0 (c_X12_put l E G L_61 f_62 H_63.size u 8 0 hG hWF Tu (show cdv f_62 G u ≤ 339 by omega)) (cwV 2 G0.2.2.2.2 g_X12_compare_X12_put_156 rfl rfl rfl (by decide +kernel) ⟨(show 0 + 1 ≤ fr + 1 by omega), (show 8 + (3 + 11) + 0 ≤ lo + 60 by omega)⟩) (py_preV hw (C := RX12) (T := TX12) (N := 54) rfl hr_74) rfl rfl hl.1 rfl (lv_room (Nat.le_of_ble_eq_true rfl)) dX12_compare_69 ⟨(Nat.le_of_ble_eq_true rfl), (Nat.le_of_ble_eq_true rfl)⟩) (fun L_82 f_83 H_84 locs hp_85 hw => ?_)
          obtain ⟨en_87, en_88, hWF, kp_89, fk_90⟩ := hp_85
          have en_87 : PT f_62 f_83 G u (8 : Int32) (0 : Int32) := en_87
          have hFK := hFK.trans fk_90 (by decide)
          have hKP := hKP.trans kp_89 (by decide) (by decide)
          have hr_74 := kp_at kp_89 hWF Tu (by decide) (by decide) (by decide) hr_74
          have tq_91 := mi_row hr_74 2 rfl
          have tq_92 := mi_row hr_74 3 rfl
          have bv_71 := wf_free v_71
          have tq_93 := mi_row hr_74 4 rfl
          have bv_72 := wf_free v_72
          have tq_94 := mi_row hr_74 5 rfl
          have bv_73 := wf_free v_73
          have tq_95 := mi_row hr_74 14 rfl
          have hTR : TR f f_83 G u (16 - 2 * wb) 1 1 := hTR.trans (en_87.tr (by omega)) (fun q => by omega)
          exact py_vret G0 hr hlk hw ⟨(by first | omega | (intro q; omega)), (by first | omega | (intro q; omega)), (by first | omega | (intro q; omega)), (by first | omega | (intro q; omega)), hTR, hWF, hKP, hFK⟩ dX12_compare_72
        · skip
          exact absurd c_81 (by decide)
      · skip
        exact absurd c_80 (by decide)
    · skip
      have tc_49 := ti_eq c_49
      clear en_47
      refine lv_aload_n G0.1 G0.2.1 dX12_compare_24 rfl (lv_at hl 1 rfl) ?_
      refine py_callv hw (va_runV (As := []) (rest := []) G0 (c_X12_bad l E G L f H_44.size u hG hWF Tu (show 0 ≤ mi f u 3 by omega)) (cwV 0 G0.2.2.2.2 g_X12_compare_X12_bad_143 rfl rfl rfl (by decide +kernel) ⟨(show 0 + 1 ≤ fr + 1 by omega), (show 8 + (1 + 11) + 0 ≤ lo + 60 by omega)⟩) (py_preV hw (C := RX12) (T := TX12) (N := 54) rfl hr_35) rfl rfl hl.1 rfl (lv_room (Nat.le_of_ble_eq_true rfl)) dX12_compare_25 ⟨(Nat.le_of_ble_eq_true rfl), (Nat.le_of_ble_eq_true rfl)⟩) (fun L_96 f_97 H_98 locs hp_99 hw => ?_)
      obtain ⟨en_101, en_102, hWF, kp_103, fk_104⟩ := hp_99
      have cq_105 := cdv_k hG Tu kp_103 fk_104 (by decide)
      have hFK := hFK.trans fk_104 (by decide)
      have hKP := hKP.trans kp_103 (by decide) (by decide)
      obtain ⟨v_106, hr_107⟩ := fk_4 hWF Tu fk_104 hr_35
      have tq_108 := mi_row hr_107 2 rfl
      have tq_109 := mi_row hr_107 3 rfl
      have bv_3 := wf_free v_3
      have tq_110 := mi_row hr_107 4 rfl
      have bv_106 := wf_free v_106
      have tq_111 := mi_row hr_107 5 rfl
      have bv_5 := wf_free v_5
      have tq_112 := mi_row hr_107 14 rfl
      have hTR := hTR.kp hG Tu kp_103 fk_104 (by decide) (fun q => by omega)
      exact py_vret G0 hr hlk hw ⟨(by first | omega | (intro q; omega)), (by first | omega | (intro q; omega)), (by first | omega | (intro q; omega)), (by first | omega | (intro q; omega)), hTR, hWF, hKP, hFK⟩ dX12_compare_28
  · skip
    have tc_41 := ti_eq c_41
    refine lv_aload_n G0.1 G0.2.1 dX12_compare_8 rfl (lv_at hl 0 rfl) ?_
    refine py_calli hw (va_runV (As := []) (rest := []) G0 (c_X12_look l E G L f s.heap.size u hG hWF Tu (show 0 ≤ mi f u 3 ∧ mi f u 3 ≤ mi f u 2 by omega)) (cwV 0 G0.2.2.2.2 g_X12_compare_X12_look_146 rfl rfl rfl (by decide +kernel) ⟨(show 1 + 1 ≤ fr + 1 by omega), (show 8 + (1 + 11) + 20 ≤ lo + 60 by omega)⟩) (py_preV hw (C := RX12) (T := TX12) (N := 54) rfl hr_35) rfl rfl hl.1 rfl (lv_room (Nat.le_of_ble_eq_true rfl)) dX12_compare_9 ⟨(Nat.le_of_ble_eq_true rfl), (Nat.le_of_ble_eq_true rfl)⟩) (fun r_117 L_113 f_114 H_115 locs hp_116 hw => ?_)
    obtain ⟨en_118, en_119, en_120, hWF, kp_121, fk_122⟩ := hp_116
    have cq_123 := cdv_k hG Tu kp_121 fk_122 (by decide)
    have hFK := hFK.trans fk_122 (by decide)
    have hKP := hKP.trans kp_121 (by decide) (by decide)
    obtain ⟨v_124, hr_125⟩ := fk_3 hWF Tu fk_122 hr_35
    have tq_126 := mi_row hr_125 2 rfl
    have tq_127 := mi_row hr_125 3 rfl
    have bv_124 := wf_free v_124
    have tq_128 := mi_row hr_125 4 rfl
    have bv_4 := wf_free v_4
    have tq_129 := mi_row hr_125 5 rfl
    have bv_5 := wf_free v_5
    have tq_130 := mi_row hr_125 14 rfl
    have hTR := hTR.kp hG Tu kp_121 fk_122 (by decide) (fun q => by omega)
    have br_117 := wf_free r_117
    refine lv_goto (tgt := 16) G0.1 G0.2.1 dX12_compare_12 (by decide) ?_
    refine lv_istore_n (lv' := [(1, .int r_117), (0, .ref u)]) G0.1 G0.2.1 dX12_compare_16 rfl hl (by decide) rfl (fun ls hl => ?_)
    refine lv_iload_n G0.1 G0.2.1 dX12_compare_17 rfl (lv_at hl 0 rfl) ?_
    refine py_calli hw (va_runS (As := [.int r_117]) (rest := []) G0 (c_X12_isSign l E G L_113 f_114 H_115.size r_117 hG hWF) (va_cwS 1 G0.2.2.2.2 g_X12_compare_X12_isSign_180 rfl rfl rfl (by decide +kernel) ⟨(show 0 + 1 ≤ fr + 1 by omega), (show 8 + (1 + 11) + 0 ≤ lo + 60 by omega)⟩) (py_preS hw) rfl rfl hl.1 rfl (lv_room (Nat.le_of_ble_eq_true rfl)) dX12_compare_18 ⟨(Nat.le_of_ble_eq_true rfl), (Nat.le_of_ble_eq_true rfl)⟩) (fun r_135 L_131 f_132 H_133 locs hp_134 hw => ?_)
    obtain ⟨b_137, en_136, rfl, rfl⟩ := hp_134
    refine lv_if_ne (tgt := 29) G0.1 G0.2.1 dX12_compare_21 (by decide) (fun c_138 => ?_) (fun c_138 => ?_)
    · skip
      have tc_138 := ti_ne c_138
      replace en_136 := en_136 (by omega)
      refine lv_aload_n G0.1 G0.2.1 dX12_compare_29 rfl (lv_at hl 1 rfl) ?_
      refine lv_dup G0.1 G0.2.1 dX12_compare_30 rfl ?_
      refine py_get (C := RX12) (T := TX12) (N := 54) (k := 3) (v := .int v_124) G0 hw in_X12_compare_X12 rfl hr_125 (by decide) (by decide +kernel) rfl dX12_compare_31 ?_
      refine lv_iconst (v := 1) G0.1 G0.2.1 dX12_compare_34 (by decide) ?_
      refine lv_iadd G0.1 G0.2.1 dX12_compare_35 ?_
      refine lv_topi (fun x_139 ex_139 => ?_)
      first | have tx_139 := ti_add ex_139 (by omega -splitDisjunctions) (by omega -splitDisjunctions) | skip
      refine py_put (C := RX12) (T := TX12) (N := 54) (k := 3) (v := .int x_139) (fs' := [.int v_1, .ref (G.2 u 1), .int v_2, .int x_139, .int v_4, .int v_5, .ref (G.2 u 6), .ref (G.2 u 7), .ref (G.2 u 8), .ref (G.2 u 9), .ref (G.2 u 10), .ref (G.2 u 11), .ref (G.2 u 12), .int v_6, .int v_7, .ref (G.2 u 15), .ref (G.2 u 16), .ref (G.2 u 17), .ref (G.2 u 18), .int v_8, .int v_9, .ref (G.2 u 21), .ref (G.2 u 22), .ref (G.2 u 23), .int v_10, .int v_11, .ref (G.2 u 26), .ref (G.2 u 27), .ref (G.2 u 28), .int v_12, .long y_13, .int v_14, .int v_15, .int v_16, .int v_17, .ref (G.2 u 35), .ref (G.2 u 36), .ref (G.2 u 37), .ref (G.2 u 38), .ref (G.2 u 39), .ref (G.2 u 40), .ref (G.2 u 41), .ref (G.2 u 42), .int v_18, .ref (G.2 u 44), .ref (G.2 u 45), .ref (G.2 u 46), .ref (G.2 u 47), .long y_19, .ref (G.2 u 49), .ref (G.2 u 50), .int v_20, .long y_21, .int v_22]) (ty0 := tyX12) G0 hw tyX12_ok nmX12 in_X12_compare_X12 rfl hr_125 (by decide) (by decide +kernel) rfl rfl rfl rfl (Nat.le_of_ble_eq_true rfl) rfl dX12_compare_36 (fun f_140 H_141 locs h_142 x_143 hw => ?_)
      have hFK := hFK.put hr_125 h_142 3 (by decide) rfl
      have cq_144 := cdv_own (f1 := f_114) (f2 := f_140) hG hWF Tu x_143 (by have z1 := mi_row hr_125 14 rfl; have z2 := mi_row h_142 14 rfl; omega)
      have hTR := hTR.own hG hWF Tu x_143 (by have z1 := mi_row hr_125 14 rfl; have z2 := mi_row h_142 14 rfl; omega) (by intro q; have z1 := mi_row hr_125 4 rfl; have z2 := mi_row h_142 4 rfl; omega)
      have hKP := hKP.upd hWF x_143 Tu (Or.inl (by decide))
      have hWF := wf_upd hWF h_142 x_143 (by rw [Tu]; exact ⟨v_1, v_2, x_139, v_4, v_5, v_6, v_7, v_8, v_9, v_10, v_11, v_12, y_13, v_14, v_15, v_16, v_17, v_18, y_19, v_20, y_21, v_22, rfl, ⟨by omega, by omega⟩, ⟨by omega, by omega⟩, ⟨by omega, by omega⟩, ⟨by omega, by omega⟩, ⟨by omega, by omega⟩, ⟨by omega, by omega⟩, ⟨by omega, by omega⟩, ⟨by omega, by omega⟩, ⟨by omega, by omega⟩, ⟨by omega, by omega⟩, ⟨by omega, by omega⟩, ⟨by omega, by omega⟩⟩)
      have tq_145 := mi_row h_142 2 rfl
      have tq_146 := mi_row h_142 3 rfl
      have bx_139 := wf_free x_139
      have tq_147 := mi_row h_142 4 rfl
      have bv_4 := wf_free v_4
      have tq_148 := mi_row h_142 5 rfl
      have bv_5 := wf_free v_5
      have tq_149 := mi_row h_142 14 rfl
      refine lv_aload_n G0.1 G0.2.1 dX12_compare_39 rfl (lv_at hl 1 rfl) ?_
      refine py_callv hw (va_runV (As := []) (rest := []) G0 (ih_sum L_113 f_140 H_141.size u hWF Tu (show mi f_140 u 4 = -1 ∧ wb ≤ mi f_140 u 5 ∧ mi f_140 u 5 ≤ 6 ∧ 0 ≤ mi f_140 u 3 ∧ mi f_140 u 3 ≤ mi f_140 u 2 ∧ cdv f_140 G u ≤ mi f_140 u 3 by omega)) (cwV 0 G0.2.2.2.2 g_X12_compare_X12_sum_167 rfl rfl rfl (by decide +kernel) ⟨(show f_sum + 1 ≤ fr + 1 by omega), (show 8 + (2 + 11) + l_sum ≤ lo + 60 by omega)⟩) (py_preV hw (C := RX12) (T := TX12) (N := 54) rfl h_142) rfl rfl hl.1 rfl (lv_room (Nat.le_of_ble_eq_true rfl)) dX12_compare_40 ⟨(Nat.le_of_ble_eq_true rfl), (Nat.le_of_ble_eq_true rfl)⟩) (fun L_150 f_151 H_152 locs hp_153 hw => ?_)
      obtain ⟨en_155, en_156, en_157, hWF, kp_158, fk_159⟩ := hp_153
      have hFK := hFK.trans fk_159 (by decide)
      have hKP := hKP.trans kp_158 (by decide) (by decide)
      obtain ⟨v_160, v_161, v_162, hr_163⟩ := fk_3_4_5 hWF Tu fk_159 h_142
      have tq_164 := mi_row hr_163 2 rfl
      have tq_165 := mi_row hr_163 3 rfl
      have bv_160 := wf_free v_160
      have tq_166 := mi_row hr_163 4 rfl
      have bv_161 := wf_free v_161
      have tq_167 := mi_row hr_163 5 rfl
      have bv_162 := wf_free v_162
      have tq_168 := mi_row hr_163 14 rfl
      have hTR : TR f f_151 G u (16 - 2 * wb) 1 2 := hTR.trans (en_157.lift (b := 1) (by omega) (by omega) (by omega) (by omega)) (fun q => by omega)
      refine lv_aload_n G0.1 G0.2.1 dX12_compare_43 rfl (lv_at hl 1 rfl) ?_
      refine lv_iload_n G0.1 G0.2.1 dX12_compare_44 rfl (lv_at hl 0 rfl) ?_
      refine lv_bipush (v := 61) G0.1 G0.2.1 dX12_compare_45 (by decide) ?_
      have jn_68 : ∀ (v_169 : Int32) (H_j68 : Heap) (locs : List Loc) (ls : Array Slot), (6 ≤ v_169.toInt ∧ v_169.toInt ≤ 8) → py_W E (va_A (va_pl L f) s.heap.size) s L_150 f_151 H_j68 locs → lv_has ls 2 [(1, .int r_117), (0, .ref u)] → W p l e (headSpec w_X12_compare ({ frames := fr + 1, cells := 0, slots := 0, locals := lo + 60 })).room s m ([.ref u] : List Value).toArray below meth c H_j68 locs 0 0 (MQ below (py_Qv E L f s.heap.size (fun L1 f1 => (mi f u 3 ≤ mi f1 u 3 ∧ cdv f1 G u - cdv f G u ≤ mi f1 u 3 - mi f u 3) ∧ (mi f u 4 = -1 → mi f1 u 3 ≤ 167 - mi f u 5) ∧ (mi f u 4 ≠ -1 → mi f1 u 3 = mi f u 3 ∧ mi f1 u 4 ≠ -1) ∧ (mi f1 u 4 = -1 → mi f1 u 5 = mi f u 5 ∧ mi f1 u 3 ≤ mi f u 2) ∧ (TR f f1 G u (16 - 2 * wb) 1 1) ∧ WF E G L1 f1 ∧ KP G [41, 42, 43, 13] false f f1 ∧ FK [3, 4, 5] f f1 u)) ([.ref u] : List Value).toArray s 0 0 (va_A (va_pl L f) s.heap.size)) (F0 m 68 ls [.int v_169, .ref u]) := by
        intro v_169 H_j68 locs ls bv_169 hw hl
        refine lv_iconst (v := 0) G0.1 G0.2.1 dX12_compare_68 (by decide) ?_
        refine py_callv hw (va_runV (As := [.int v_169, .int 0]) (rest := []) G0 (c_X12_put l E G L_150 f_151 H_j68.size u v_169 0 hG hWF Tu (show cdv f_151 G u ≤ 339 by omega)) (cwV 2 G0.2.2.2.2 g_X12_compare_X12_put_156 rfl rfl rfl (by decide +kernel) ⟨(show 0 + 1 ≤ fr + 1 by omega), (show 8 + (3 + 11) + 0 ≤ lo + 60 by omega)⟩) (py_preV hw (C := RX12) (T := TX12) (N := 54) rfl hr_163) rfl rfl hl.1 rfl (lv_room (Nat.le_of_ble_eq_true rfl)) dX12_compare_69 ⟨(Nat.le_of_ble_eq_true rfl), (Nat.le_of_ble_eq_true rfl)⟩) (fun L_170 f_171 H_172 locs hp_173 hw => ?_)
        obtain ⟨en_175, en_176, hWF, kp_177, fk_178⟩ := hp_173
        have en_175 : PT f_151 f_171 G u v_169 (0 : Int32) := en_175
        have hFK := hFK.trans fk_178 (by decide)
        have hKP := hKP.trans kp_177 (by decide) (by decide)
        have hr_163 := kp_at kp_177 hWF Tu (by decide) (by decide) (by decide) hr_163
        have tq_179 := mi_row hr_163 2 rfl
        have tq_180 := mi_row hr_163 3 rfl
        have bv_160 := wf_free v_160
        have tq_181 := mi_row hr_163 4 rfl
        have bv_161 := wf_free v_161
        have tq_182 := mi_row hr_163 5 rfl
        have bv_162 := wf_free v_162
        have tq_183 := mi_row hr_163 14 rfl
        have hTR : TR f f_171 G u (16 - 2 * wb) 1 1 := hTR.trans (en_175.tr (by omega)) (fun q => by omega)
        exact py_vret G0 hr hlk hw ⟨(by first | omega | (intro q; omega)), (by first | omega | (intro q; omega)), (by first | omega | (intro q; omega)), (by first | omega | (intro q; omega)), hTR, hWF, hKP, hFK⟩ dX12_compare_72
      refine lv_icmp_ne (tgt := 55) G0.1 G0.2.1 dX12_compare_47 (by decide) (fun c_184 => ?_) (fun c_184 => ?_)
      · skip
        have tc_184 := ti_ne c_184
        refine lv_iload_n G0.1 G0.2.1 dX12_compare_55 rfl (lv_at hl 0 rfl) ?_
        refine lv_bipush (v := 60) G0.1 G0.2.1 dX12_compare_56 (by decide) ?_
        refine lv_icmp_ne (tgt := 66) G0.1 G0.2.1 dX12_compare_58 (by decide) (fun c_185 => ?_) (fun c_185 => ?_)
        · skip
          have tc_185 := ti_ne c_185
          refine lv_bipush (v := 8) G0.1 G0.2.1 dX12_compare_66 (by decide) ?_
          exact jn_68 8 _ _ ls ⟨by omega, by omega⟩ hw (lv_sub hl [0, 1] rfl)
        · skip
          have tc_185 := ti_eq c_185
          replace en_119 := en_119 (by omega)
          refine lv_bipush (v := 7) G0.1 G0.2.1 dX12_compare_61 (by decide) ?_
          refine lv_goto (tgt := 68) G0.1 G0.2.1 dX12_compare_63 (by decide) ?_
          exact jn_68 7 _ _ ls ⟨by omega, by omega⟩ hw (lv_sub hl [0, 1] rfl)
      · skip
        have tc_184 := ti_eq c_184
        replace en_119 := en_119 (by omega)
        refine lv_bipush (v := 6) G0.1 G0.2.1 dX12_compare_50 (by decide) ?_
        refine lv_goto (tgt := 68) G0.1 G0.2.1 dX12_compare_52 (by decide) ?_
        exact jn_68 6 _ _ ls ⟨by omega, by omega⟩ hw (lv_sub hl [0, 1] rfl)
    · skip
      have tc_138 := ti_eq c_138
      clear en_136
      refine lv_aload_n G0.1 G0.2.1 dX12_compare_24 rfl (lv_at hl 1 rfl) ?_
      refine py_callv hw (va_runV (As := []) (rest := []) G0 (c_X12_bad l E G L_113 f_114 H_133.size u hG hWF Tu (show 0 ≤ mi f_114 u 3 by omega)) (cwV 0 G0.2.2.2.2 g_X12_compare_X12_bad_143 rfl rfl rfl (by decide +kernel) ⟨(show 0 + 1 ≤ fr + 1 by omega), (show 8 + (1 + 11) + 0 ≤ lo + 60 by omega)⟩) (py_preV hw (C := RX12) (T := TX12) (N := 54) rfl hr_125) rfl rfl hl.1 rfl (lv_room (Nat.le_of_ble_eq_true rfl)) dX12_compare_25 ⟨(Nat.le_of_ble_eq_true rfl), (Nat.le_of_ble_eq_true rfl)⟩) (fun L_186 f_187 H_188 locs hp_189 hw => ?_)
      obtain ⟨en_191, en_192, hWF, kp_193, fk_194⟩ := hp_189
      have cq_195 := cdv_k hG Tu kp_193 fk_194 (by decide)
      have hFK := hFK.trans fk_194 (by decide)
      have hKP := hKP.trans kp_193 (by decide) (by decide)
      obtain ⟨v_196, hr_197⟩ := fk_4 hWF Tu fk_194 hr_125
      have tq_198 := mi_row hr_197 2 rfl
      have tq_199 := mi_row hr_197 3 rfl
      have bv_124 := wf_free v_124
      have tq_200 := mi_row hr_197 4 rfl
      have bv_196 := wf_free v_196
      have tq_201 := mi_row hr_197 5 rfl
      have bv_5 := wf_free v_5
      have tq_202 := mi_row hr_197 14 rfl
      have hTR := hTR.kp hG Tu kp_193 fk_194 (by decide) (fun q => by omega)
      exact py_vret G0 hr hlk hw ⟨(by first | omega | (intro q; omega)), (by first | omega | (intro q; omega)), (by first | omega | (intro q; omega)), (by first | omega | (intro q; omega)), hTR, hWF, hKP, hFK⟩ dX12_compare_28
