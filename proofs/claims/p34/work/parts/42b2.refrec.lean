set_option maxHeartbeats 4000000 in
set_option maxRecDepth 100000 in
theorem q_term (l : Launch) (E : py_E) (G : wf_G) (hG : GT G) (wb : Int) (hwb : 0 ≤ wb) (fr lo : Nat) (hfr : 10 ≤ fr) (hlo : 300 ≤ lo) (f_atom l_atom : Nat) (x_atom : f_atom ≤ fr) (z_atom : l_atom ≤ lo) (ih_atom : Q_atom l E G wb f_atom l_atom) : Q_term l E G wb (fr + 1) (lo + 60) := by
  intro L f sz u gb nb pb eb hWF Tu hp0 hp1 hp2 hq0
  refine Met.ofW (cc := cX12_term) (maxL := 2) (ret := none) (by decide) rfl ?_
  intro p e s m args below meth c s₁ B hml hv
  obtain ⟨rfl, rfl, hw⟩ := py_start hv
  have G0 : CallFix p m c cX12_term 2 s _ w_X12_term RX12 := ⟨B.exec, B.bytes, hml, findClass_of_methodNamed B.named, atoms_spec (ws := w_X12_term) B.pre⟩
  have hr := B.returns
  have hlk := B.notSynchronized
  have kcm1 : (-1 : Int32).toInt = -1 := rfl
  have kc0 : (0 : Int32).toInt = 0 := rfl
  have kc1 : (1 : Int32).toInt = 1 := rfl
  have kc4 : (4 : Int32).toInt = 4 := rfl
  have kc5 : (5 : Int32).toInt = 5 := rfl
  have kc42 : (42 : Int32).toInt = 42 := rfl
  have kc47 : (47 : Int32).toInt = 47 := rfl
  have hl := lv_entry ([.ref u]) (n := 2) (Nat.le_of_ble_eq_true rfl)
  rw [lg_entry_eq]
  generalize (lg_sl ([.ref u]) ++ List.replicate (2 - (lg_sl ([.ref u])).length) Slot.unset).toArray = ls at hl ⊢
  have hl : lv_has ls 2 [(0, .ref u)] := hl
  have hKP : KP G [41, 42, 43, 13] false f f := KP.refl
  have hFK : FK [3, 4, 5] f f u := FK.refl
  have hMB := hq0
  obtain ⟨v_1, v_2, v_3, v_4, v_5, v_6, v_7, v_8, v_9, v_10, v_11, v_12, y_13, v_14, v_15, v_16, v_17, v_18, y_19, v_20, y_21, v_22, hr_35, b_23, b_24, b_25, b_26, b_27, b_28, b_29, b_30, b_31, b_32, b_33, b_34⟩ := wg_12 hWF Tu
  have tq_36 := mi_row hr_35 2 rfl
  have tq_37 := mi_row hr_35 3 rfl
  have bv_3 := wf_free v_3
  have tq_38 := mi_row hr_35 4 rfl
  have bv_4 := wf_free v_4
  have tq_39 := mi_row hr_35 5 rfl
  have bv_5 := wf_free v_5
  have tq_40 := mi_row hr_35 14 rfl
  have hcd := cdv_rng hG hWF Tu (by omega) (by omega)
  have hTR : TR f f G u (14 - 2 * wb) 0 0 := TR.refl (by omega) (by omega)
  refine lv_aload_n G0.1 G0.2.1 dX12_term_0 rfl (lv_at hl 0 rfl) ?_
  refine py_callv hw (va_runV (As := []) (rest := []) G0 (ih_atom L f s.heap.size u gb nb pb eb hWF Tu (show mi f u 4 = -1 ∧ wb ≤ mi f u 5 ∧ mi f u 5 ≤ 6 ∧ 0 ≤ mi f u 3 ∧ mi f u 3 ≤ mi f u 2 ∧ cdv f G u ≤ mi f u 3 by omega) (show mi f u 2 = nb ∧ mi f u 3 = pb by omega) (show mi f u 5 = 6 - ((eb : Nat) : Int) by omega) hMB) (cwV 0 G0.2.2.2.2 g_X12_term_X12_atom_174 rfl rfl rfl (by decide +kernel) ⟨(show f_atom + 1 ≤ fr + 1 by omega), (show 8 + (2 + 11) + l_atom ≤ lo + 60 by omega)⟩) (py_preV hw (C := RX12) (T := TX12) (N := 54) rfl hr_35) rfl rfl hl.1 rfl (lv_room (Nat.le_of_ble_eq_true rfl)) dX12_term_1 ⟨(Nat.le_of_ble_eq_true rfl), (Nat.le_of_ble_eq_true rfl)⟩) (fun L_41 f_42 H_43 locs hp_44 hw => ?_)
  obtain ⟨en_46, en_47, en_48, en_49, en_50, hWF, kp_51, fk_52⟩ := hp_44
  have hMB := hMB.kp (kp_f kp_51 (wt12_1 hG Tu) (by decide) (by decide) (fun _ => by decide))
  have hFK := hFK.trans fk_52 (by decide)
  have hKP := hKP.trans kp_51 (by decide) (by decide)
  obtain ⟨v_53, v_54, v_55, hr_56⟩ := fk_3_4_5 hWF Tu fk_52 hr_35
  have tq_57 := mi_row hr_56 2 rfl
  have tq_58 := mi_row hr_56 3 rfl
  have bv_53 := wf_free v_53
  have tq_59 := mi_row hr_56 4 rfl
  have bv_54 := wf_free v_54
  have tq_60 := mi_row hr_56 5 rfl
  have bv_55 := wf_free v_55
  have tq_61 := mi_row hr_56 14 rfl
  have hTR : TR f f_42 G u (14 - 2 * wb) 0 1 := hTR.trans (en_48.lift (b := 0) (by omega) (by omega) (by omega) (by omega)) (fun q => by omega)
  have hX : (rs_tm gb nb eb pb) = rs_af (rs_at gb nb eb) 3 gb nb ((rs_at gb nb eb) pb) := rs_lp_af (fun hx => by omega)
  refine lv_aload_n G0.1 G0.2.1 dX12_term_4 rfl (lv_at hl 0 rfl) ?_
  refine py_get (C := RX12) (T := TX12) (N := 54) (k := 4) (v := .int v_54) G0 hw in_X12_term_X12 rfl hr_56 (by decide) (by decide +kernel) rfl dX12_term_5 ?_
  refine lv_iconst (v := (-1)) G0.1 G0.2.1 dX12_term_8 (by decide) ?_
  have jn_20 : ∀ (v_62 : Int32) (L_j20 : List Nat) (f_j20 : py_F) (H_j20 : Heap) (locs : List Loc) (ls : Array Slot), WF E G L_j20 f_j20 → KP G [41, 42, 43, 13] false f f_j20 → FK [3, 4, 5] f f_j20 u → AG f_j20 (G.2 u 1) gb nb → TR f f_j20 G u (14 - 2 * wb) 0 1 → (mi f u 3 ≤ mi f_j20 u 3 ∧ cdv f_j20 G u - cdv f G u ≤ mi f_j20 u 3 - mi f u 3 ∧ mi f_j20 u 3 ≤ 167 - mi f u 5) → (mi f_j20 u 4 = -1 → mi f_j20 u 5 = mi f u 5 ∧ mi f_j20 u 3 ≤ mi f u 2) → (v_62.toInt ≠ -1 → mi f_j20 u 4 = -1 ∧ mi f_j20 u 3 < mi f u 2) → (mi f_j20 u 2 = mi f u 2) → (v_62.toInt ≠ -1 → (rs_tm gb nb eb pb) = rs_af (rs_at gb nb eb) 3 gb nb (1, mi f_j20 u 3) ∧ rs_v gb nb (rs_sk gb nb (mi f_j20 u 3)) = v_62.toInt ∧ rs_sk gb nb (mi f_j20 u 3) = mi f_j20 u 3) → (v_62.toInt = -1 → mi f_j20 u 4 = -1 → (rs_tm gb nb eb pb) = (1, mi f_j20 u 3)) → (v_62.toInt = -1 → mi f_j20 u 4 ≠ -1 → (rs_tm gb nb eb pb) = (0, mi f_j20 u 4)) → py_W E (va_A (va_pl L f) s.heap.size) s L_j20 f_j20 H_j20 locs → lv_has ls 2 [(0, .ref u)] → W p l e (headSpec w_X12_term ({ frames := fr + 1, cells := 0, slots := 0, locals := lo + 60 })).room s m ([.ref u] : List Value).toArray below meth c H_j20 locs 0 0 (MQ below (py_Qv E L f s.heap.size (fun L1 f1 => (mi f u 3 ≤ mi f1 u 3 ∧ cdv f1 G u - cdv f G u ≤ mi f1 u 3 - mi f u 3 ∧ mi f1 u 3 ≤ 167 - mi f u 5) ∧ (mi f1 u 4 = -1 → mi f1 u 5 = mi f u 5 ∧ mi f1 u 3 ≤ mi f u 2) ∧ (TR f f1 G u (14 - 2 * wb) 0 1) ∧ (mi f1 u 4 = -1 → (rs_tm gb nb eb pb).1 ≠ 0 ∧ mi f1 u 3 = (rs_tm gb nb eb pb).2) ∧ (mi f1 u 4 ≠ -1 → (rs_tm gb nb eb pb).1 = 0 ∧ mi f1 u 4 = (rs_tm gb nb eb pb).2) ∧ WF E G L1 f1 ∧ KP G [41, 42, 43, 13] false f f1 ∧ FK [3, 4, 5] f f1 u)) ([.ref u] : List Value).toArray s 0 0 (va_A (va_pl L f) s.heap.size)) (F0 m 20 ls [.int v_62]) := by
    intro v_62 L_j20 f_j20 H_j20 locs ls hWF hKP hFK hMB hTR jv0 jv1 jv2 jv3 jv4 jv5 jv6 hw hl
    clear en_46 en_47 en_48 en_49 en_50
    refine lv_istore_n (lv' := [(1, .int v_62), (0, .ref u)]) G0.1 G0.2.1 dX12_term_20 rfl hl (by decide) rfl (fun ls hl => ?_)
    have lo_21 : ∀ n_21 : Nat, ∀ (v_63 : Int32) (L_j21 : List Nat) (f_j21 : py_F) (H_j21 : Heap) (locs : List Loc) (ls : Array Slot), (mi f u 2 - mi f_j21 u 3).toNat = n_21 → WF E G L_j21 f_j21 → KP G [41, 42, 43, 13] false f f_j21 → FK [3, 4, 5] f f_j21 u → AG f_j21 (G.2 u 1) gb nb → TR f f_j21 G u (14 - 2 * wb) 0 1 → (mi f u 3 ≤ mi f_j21 u 3 ∧ cdv f_j21 G u - cdv f G u ≤ mi f_j21 u 3 - mi f u 3 ∧ mi f_j21 u 3 ≤ 167 - mi f u 5) → (mi f_j21 u 4 = -1 → mi f_j21 u 5 = mi f u 5 ∧ mi f_j21 u 3 ≤ mi f u 2) → (v_63.toInt ≠ -1 → mi f_j21 u 4 = -1 ∧ mi f_j21 u 3 < mi f u 2) → (mi f_j21 u 2 = mi f u 2) → (v_63.toInt ≠ -1 → (rs_tm gb nb eb pb) = rs_af (rs_at gb nb eb) 3 gb nb (1, mi f_j21 u 3) ∧ rs_v gb nb (rs_sk gb nb (mi f_j21 u 3)) = v_63.toInt ∧ rs_sk gb nb (mi f_j21 u 3) = mi f_j21 u 3) → (v_63.toInt = -1 → mi f_j21 u 4 = -1 → (rs_tm gb nb eb pb) = (1, mi f_j21 u 3)) → (v_63.toInt = -1 → mi f_j21 u 4 ≠ -1 → (rs_tm gb nb eb pb) = (0, mi f_j21 u 4)) → py_W E (va_A (va_pl L f) s.heap.size) s L_j21 f_j21 H_j21 locs → lv_has ls 2 [(1, .int v_63), (0, .ref u)] → W p l e (headSpec w_X12_term ({ frames := fr + 1, cells := 0, slots := 0, locals := lo + 60 })).room s m ([.ref u] : List Value).toArray below meth c H_j21 locs 0 0 (MQ below (py_Qv E L f s.heap.size (fun L1 f1 => (mi f u 3 ≤ mi f1 u 3 ∧ cdv f1 G u - cdv f G u ≤ mi f1 u 3 - mi f u 3 ∧ mi f1 u 3 ≤ 167 - mi f u 5) ∧ (mi f1 u 4 = -1 → mi f1 u 5 = mi f u 5 ∧ mi f1 u 3 ≤ mi f u 2) ∧ (TR f f1 G u (14 - 2 * wb) 0 1) ∧ (mi f1 u 4 = -1 → (rs_tm gb nb eb pb).1 ≠ 0 ∧ mi f1 u 3 = (rs_tm gb nb eb pb).2) ∧ (mi f1 u 4 ≠ -1 → (rs_tm gb nb eb pb).1 = 0 ∧ mi f1 u 4 = (rs_tm gb nb eb pb).2) ∧ WF E G L1 f1 ∧ KP G [41, 42, 43, 13] false f f1 ∧ FK [3, 4, 5] f f1 u)) ([.ref u] : List Value).toArray s 0 0 (va_A (va_pl L f) s.heap.size)) (F0 m 21 ls []) := by
      intro n_21
      induction n_21 using Nat.strongRecOn with
      | _ n_21 ih_21 =>
        intro v_63 L_j21 f_j21 H_j21 locs ls hn_21 hWF hKP hFK hMB hTR iv0 iv1 iv2 iv3 iv4 iv5 iv6 hw hl
        refine lv_iload_n G0.1 G0.2.1 dX12_term_21 rfl (lv_at hl 0 rfl) ?_
        refine lv_bipush (v := 42) G0.1 G0.2.1 dX12_term_22 (by decide) ?_
        refine lv_icmp_eq (tgt := 33) G0.1 G0.2.1 dX12_term_24 (by decide) (fun c_64 => ?_) (fun c_64 => ?_)
        · skip
          have tc_64 := ti_eq c_64
          replace iv2 := iv2 (by omega)
          refine lv_aload_n G0.1 G0.2.1 dX12_term_33 rfl (lv_at hl 1 rfl) ?_
          refine lv_dup G0.1 G0.2.1 dX12_term_34 rfl ?_
          obtain ⟨v_65, v_66, v_67, v_68, v_69, v_70, v_71, v_72, v_73, v_74, v_75, v_76, y_77, v_78, v_79, v_80, v_81, v_82, y_83, v_84, y_85, v_86, hr_99, b_87, b_88, b_89, b_90, b_91, b_92, b_93, b_94, b_95, b_96, b_97, b_98⟩ := wg_12 hWF Tu
          have tq_100 := mi_row hr_99 2 rfl
          have tq_101 := mi_row hr_99 3 rfl
          have bv_67 := wf_free v_67
          have tq_102 := mi_row hr_99 4 rfl
          have bv_68 := wf_free v_68
          have tq_103 := mi_row hr_99 5 rfl
          have bv_69 := wf_free v_69
          have tq_104 := mi_row hr_99 14 rfl
          refine py_get (C := RX12) (T := TX12) (N := 54) (k := 3) (v := .int v_67) G0 hw in_X12_term_X12 rfl hr_99 (by decide) (by decide +kernel) rfl dX12_term_35 ?_
          refine lv_iconst (v := 1) G0.1 G0.2.1 dX12_term_38 (by decide) ?_
          refine lv_iadd G0.1 G0.2.1 dX12_term_39 ?_
          refine lv_topi (fun x_105 ex_105 => ?_)
          first | have tx_105 := ti_add ex_105 (by omega -splitDisjunctions) (by omega -splitDisjunctions) | skip
          refine py_put (C := RX12) (T := TX12) (N := 54) (k := 3) (v := .int x_105) (fs' := [.int v_65, .ref (G.2 u 1), .int v_66, .int x_105, .int v_68, .int v_69, .ref (G.2 u 6), .ref (G.2 u 7), .ref (G.2 u 8), .ref (G.2 u 9), .ref (G.2 u 10), .ref (G.2 u 11), .ref (G.2 u 12), .int v_70, .int v_71, .ref (G.2 u 15), .ref (G.2 u 16), .ref (G.2 u 17), .ref (G.2 u 18), .int v_72, .int v_73, .ref (G.2 u 21), .ref (G.2 u 22), .ref (G.2 u 23), .int v_74, .int v_75, .ref (G.2 u 26), .ref (G.2 u 27), .ref (G.2 u 28), .int v_76, .long y_77, .int v_78, .int v_79, .int v_80, .int v_81, .ref (G.2 u 35), .ref (G.2 u 36), .ref (G.2 u 37), .ref (G.2 u 38), .ref (G.2 u 39), .ref (G.2 u 40), .ref (G.2 u 41), .ref (G.2 u 42), .int v_82, .ref (G.2 u 44), .ref (G.2 u 45), .ref (G.2 u 46), .ref (G.2 u 47), .long y_83, .ref (G.2 u 49), .ref (G.2 u 50), .int v_84, .long y_85, .int v_86]) (ty0 := tyX12) G0 hw tyX12_ok nmX12 in_X12_term_X12 rfl hr_99 (by decide) (by decide +kernel) rfl rfl rfl rfl (Nat.le_of_ble_eq_true rfl) rfl dX12_term_40 (fun f_106 H_107 locs h_108 x_109 hw => ?_)
          have hMB := hMB.kp (kp_f (KP.refl.upd hWF x_109 Tu (Or.inl (by decide)) : KP G [13] false f_j21 f_106) (wt12_1 hG Tu) (by decide) (by decide) (fun _ => by decide))
          have hFK := hFK.put hr_99 h_108 3 (by decide) rfl
          have cq_110 := cdv_own (f1 := f_j21) (f2 := f_106) hG hWF Tu x_109 (by have z1 := mi_row hr_99 14 rfl; have z2 := mi_row h_108 14 rfl; omega)
          have hTR := hTR.own hG hWF Tu x_109 (by have z1 := mi_row hr_99 14 rfl; have z2 := mi_row h_108 14 rfl; omega) (by intro q; have z1 := mi_row hr_99 4 rfl; have z2 := mi_row h_108 4 rfl; omega)
          have hKP := hKP.upd hWF x_109 Tu (Or.inl (by decide))
          have hWF := wf_upd hWF h_108 x_109 (by rw [Tu]; exact ⟨v_65, v_66, x_105, v_68, v_69, v_70, v_71, v_72, v_73, v_74, v_75, v_76, y_77, v_78, v_79, v_80, v_81, v_82, y_83, v_84, y_85, v_86, rfl, ⟨by omega, by omega⟩, ⟨by omega, by omega⟩, ⟨by omega, by omega⟩, ⟨by omega, by omega⟩, ⟨by omega, by omega⟩, ⟨by omega, by omega⟩, ⟨by omega, by omega⟩, ⟨by omega, by omega⟩, ⟨by omega, by omega⟩, ⟨by omega, by omega⟩, ⟨by omega, by omega⟩, ⟨by omega, by omega⟩⟩)
          have tq_111 := mi_row h_108 2 rfl
          have tq_112 := mi_row h_108 3 rfl
          have bx_105 := wf_free x_105
          have tq_113 := mi_row h_108 4 rfl
          have bv_68 := wf_free v_68
          have tq_114 := mi_row h_108 5 rfl
          have bv_69 := wf_free v_69
          have tq_115 := mi_row h_108 14 rfl
          refine lv_aload_n G0.1 G0.2.1 dX12_term_43 rfl (lv_at hl 1 rfl) ?_
          refine py_callv hw (va_runV (As := []) (rest := []) G0 (ih_atom L_j21 f_106 H_107.size u gb nb (mi f_j21 u 3 + 1) eb hWF Tu (show mi f_106 u 4 = -1 ∧ wb ≤ mi f_106 u 5 ∧ mi f_106 u 5 ≤ 6 ∧ 0 ≤ mi f_106 u 3 ∧ mi f_106 u 3 ≤ mi f_106 u 2 ∧ cdv f_106 G u ≤ mi f_106 u 3 by omega) (show mi f_106 u 2 = nb ∧ mi f_106 u 3 = (mi f_j21 u 3 + 1) by omega) (show mi f_106 u 5 = 6 - ((eb : Nat) : Int) by omega) hMB) (cwV 0 G0.2.2.2.2 g_X12_term_X12_atom_174 rfl rfl rfl (by decide +kernel) ⟨(show f_atom + 1 ≤ fr + 1 by omega), (show 8 + (2 + 11) + l_atom ≤ lo + 60 by omega)⟩) (py_preV hw (C := RX12) (T := TX12) (N := 54) rfl h_108) rfl rfl hl.1 rfl (lv_room (Nat.le_of_ble_eq_true rfl)) dX12_term_44 ⟨(Nat.le_of_ble_eq_true rfl), (Nat.le_of_ble_eq_true rfl)⟩) (fun L_116 f_117 H_118 locs hp_119 hw => ?_)
          obtain ⟨en_121, en_122, en_123, en_124, en_125, hWF, kp_126, fk_127⟩ := hp_119
          have hMB := hMB.kp (kp_f kp_126 (wt12_1 hG Tu) (by decide) (by decide) (fun _ => by decide))
          have hFK := hFK.trans fk_127 (by decide)
          have hKP := hKP.trans kp_126 (by decide) (by decide)
          obtain ⟨v_128, v_129, v_130, hr_131⟩ := fk_3_4_5 hWF Tu fk_127 h_108
          have tq_132 := mi_row hr_131 2 rfl
          have tq_133 := mi_row hr_131 3 rfl
          have bv_128 := wf_free v_128
          have tq_134 := mi_row hr_131 4 rfl
          have bv_129 := wf_free v_129
          have tq_135 := mi_row hr_131 5 rfl
          have bv_130 := wf_free v_130
          have tq_136 := mi_row hr_131 14 rfl
          have hTR : TR f f_117 G u (14 - 2 * wb) 0 2 := hTR.trans (en_123.lift (b := 1) (by omega) (by omega) (by omega) (by omega)) (fun q => by omega)
          have hX : (rs_tm gb nb eb pb) = rs_af (rs_at gb nb eb) 3 gb nb ((rs_at gb nb eb) (mi f_j21 u 3 + 1)) := (rs_af_onp (iv4 (by omega)).1 (by decide) (rs_co_y3 (by have hy := (iv4 (by omega)).2.1; omega)) (by omega) (show (mi f_j21 u 3 + 1) = _ by rw [(iv4 (by omega)).2.2])).trans (rs_lp_af (fun hx => by omega))
          refine lv_aload_n G0.1 G0.2.1 dX12_term_47 rfl (lv_at hl 1 rfl) ?_
          refine lv_iload_n G0.1 G0.2.1 dX12_term_48 rfl (lv_at hl 0 rfl) ?_
          refine lv_bipush (v := 42) G0.1 G0.2.1 dX12_term_49 (by decide) ?_
          have jn_59 : ∀ (v_137 : Int32) (H_j59 : Heap) (locs : List Loc) (ls : Array Slot), (4 ≤ v_137.toInt ∧ v_137.toInt ≤ 5) → py_W E (va_A (va_pl L f) s.heap.size) s L_116 f_117 H_j59 locs → lv_has ls 2 [(1, .int v_63), (0, .ref u)] → W p l e (headSpec w_X12_term ({ frames := fr + 1, cells := 0, slots := 0, locals := lo + 60 })).room s m ([.ref u] : List Value).toArray below meth c H_j59 locs 0 0 (MQ below (py_Qv E L f s.heap.size (fun L1 f1 => (mi f u 3 ≤ mi f1 u 3 ∧ cdv f1 G u - cdv f G u ≤ mi f1 u 3 - mi f u 3 ∧ mi f1 u 3 ≤ 167 - mi f u 5) ∧ (mi f1 u 4 = -1 → mi f1 u 5 = mi f u 5 ∧ mi f1 u 3 ≤ mi f u 2) ∧ (TR f f1 G u (14 - 2 * wb) 0 1) ∧ (mi f1 u 4 = -1 → (rs_tm gb nb eb pb).1 ≠ 0 ∧ mi f1 u 3 = (rs_tm gb nb eb pb).2) ∧ (mi f1 u 4 ≠ -1 → (rs_tm gb nb eb pb).1 = 0 ∧ mi f1 u 4 = (rs_tm gb nb eb pb).2) ∧ WF E G L1 f1 ∧ KP G [41, 42, 43, 13] false f f1 ∧ FK [3, 4, 5] f f1 u)) ([.ref u] : List Value).toArray s 0 0 (va_A (va_pl L f) s.heap.size)) (F0 m 59 ls [.int v_137, .ref u]) := by
            intro v_137 H_j59 locs ls bv_137 hw hl
            refine lv_iconst (v := 0) G0.1 G0.2.1 dX12_term_59 (by decide) ?_
            refine py_callv hw (va_runV (As := [.int v_137, .int 0]) (rest := []) G0 (c_X12_put l E G L_116 f_117 H_j59.size u v_137 0 hG hWF Tu (show cdv f_117 G u ≤ 339 by omega)) (cwV 2 G0.2.2.2.2 g_X12_term_X12_put_156 rfl rfl rfl (by decide +kernel) ⟨(show 0 + 1 ≤ fr + 1 by omega), (show 8 + (3 + 11) + 0 ≤ lo + 60 by omega)⟩) (py_preV hw (C := RX12) (T := TX12) (N := 54) rfl hr_131) rfl rfl hl.1 rfl (lv_room (Nat.le_of_ble_eq_true rfl)) dX12_term_60 ⟨(Nat.le_of_ble_eq_true rfl), (Nat.le_of_ble_eq_true rfl)⟩) (fun L_138 f_139 H_140 locs hp_141 hw => ?_)
            obtain ⟨en_143, en_144, hWF, kp_145, fk_146⟩ := hp_141
            have en_143 : PT f_117 f_139 G u v_137 (0 : Int32) := en_143
            have hMB := hMB.kp (kp_f kp_145 (wt12_1 hG Tu) (by decide) (by decide) (fun _ => by decide))
            have hFK := hFK.trans fk_146 (by decide)
            have hKP := hKP.trans kp_145 (by decide) (by decide)
            have hr_131 := kp_at kp_145 hWF Tu (by decide) (by decide) (by decide) hr_131
            have tq_147 := mi_row hr_131 2 rfl
            have tq_148 := mi_row hr_131 3 rfl
            have bv_128 := wf_free v_128
            have tq_149 := mi_row hr_131 4 rfl
            have bv_129 := wf_free v_129
            have tq_150 := mi_row hr_131 5 rfl
            have bv_130 := wf_free v_130
            have tq_151 := mi_row hr_131 14 rfl
            have hTR : TR f f_139 G u (14 - 2 * wb) 0 1 := hTR.trans (en_143.tr (by omega)) (fun q => by omega)
            refine lv_aload_n G0.1 G0.2.1 dX12_term_63 rfl (lv_at hl 1 rfl) ?_
            refine py_get (C := RX12) (T := TX12) (N := 54) (k := 4) (v := .int v_129) G0 hw in_X12_term_X12 rfl hr_131 (by decide) (by decide +kernel) rfl dX12_term_64 ?_
            refine lv_iconst (v := (-1)) G0.1 G0.2.1 dX12_term_67 (by decide) ?_
            refine lv_icmp_ne (tgt := 78) G0.1 G0.2.1 dX12_term_68 (by decide) (fun c_152 => ?_) (fun c_152 => ?_)
            · skip
              have tc_152 := ti_ne c_152
              clear en_122
              clear en_124
              replace en_125 := en_125 (by omega)
              refine lv_iconst (v := (-1)) G0.1 G0.2.1 dX12_term_78 (by decide) ?_
              refine lv_istore_n (lv' := [(1, .int (-1)), (0, .ref u)]) G0.1 G0.2.1 dX12_term_79 rfl hl (by decide) rfl (fun ls hl => ?_)
              refine lv_goto (tgt := 21) G0.1 G0.2.1 dX12_term_80 (by decide) ?_
              exact ih_21 ((mi f u 2 - mi f_139 u 3).toNat) (by omega) (-1) L_138 f_139 _ _ ls rfl hWF hKP hFK hMB hTR (by first | omega | (intros; omega)) (by first | omega | (intros; omega)) (by first | omega | (intros; omega)) (by first | omega | (intros; omega)) (fun hc => absurd kcm1 hc) (fun hc hw => absurd hw (by omega)) (fun hc hw => rs_af_w0 hX (by omega) (by omega)) hw (lv_sub hl [0, 1] rfl)
            · skip
              have tc_152 := ti_eq c_152
              replace en_122 := en_122 (by omega)
              replace en_124 := en_124 (by omega)
              clear en_125
              refine lv_aload_n G0.1 G0.2.1 dX12_term_71 rfl (lv_at hl 1 rfl) ?_
              refine py_calli hw (va_runV (As := []) (rest := []) G0 (c_X12_look l E G L_138 f_139 H_140.size u gb nb ((rs_at gb nb eb) (mi f_j21 u 3 + 1)).2 hG hWF Tu (show 0 ≤ mi f_139 u 3 ∧ mi f_139 u 3 ≤ mi f_139 u 2 by omega) (show mi f_139 u 3 = ((rs_at gb nb eb) (mi f_j21 u 3 + 1)).2 by omega) (show mi f_139 u 2 = nb ∧ 0 ≤ ((rs_at gb nb eb) (mi f_j21 u 3 + 1)).2 by omega) hMB) (cwV 0 G0.2.2.2.2 g_X12_term_X12_look_146 rfl rfl rfl (by decide +kernel) ⟨(show 1 + 1 ≤ fr + 1 by omega), (show 8 + (1 + 11) + 20 ≤ lo + 60 by omega)⟩) (py_preV hw (C := RX12) (T := TX12) (N := 54) rfl hr_131) rfl rfl hl.1 rfl (lv_room (Nat.le_of_ble_eq_true rfl)) dX12_term_72 ⟨(Nat.le_of_ble_eq_true rfl), (Nat.le_of_ble_eq_true rfl)⟩) (fun r_157 L_153 f_154 H_155 locs hp_156 hw => ?_)
              obtain ⟨en_158, en_159, en_160, en_161, hWF, kp_162, fk_163⟩ := hp_156
              have hMB := hMB.kp (kp_f kp_162 (wt12_1 hG Tu) (by decide) (by decide) (fun _ => by decide))
              have cq_164 := cdv_k hG Tu kp_162 fk_163 (by decide)
              have hFK := hFK.trans fk_163 (by decide)
              have hKP := hKP.trans kp_162 (by decide) (by decide)
              obtain ⟨v_165, hr_166⟩ := fk_3 hWF Tu fk_163 hr_131
              have tq_167 := mi_row hr_166 2 rfl
              have tq_168 := mi_row hr_166 3 rfl
              have bv_165 := wf_free v_165
              have tq_169 := mi_row hr_166 4 rfl
              have bv_129 := wf_free v_129
              have tq_170 := mi_row hr_166 5 rfl
              have bv_130 := wf_free v_130
              have tq_171 := mi_row hr_166 14 rfl
              have hTR := hTR.kp hG Tu kp_162 fk_163 (by decide) (fun q => by omega)
              have br_157 := wf_free r_157
              refine lv_goto (tgt := 79) G0.1 G0.2.1 dX12_term_75 (by decide) ?_
              refine lv_istore_n (lv' := [(1, .int r_157), (0, .ref u)]) G0.1 G0.2.1 dX12_term_79 rfl hl (by decide) rfl (fun ls hl => ?_)
              refine lv_goto (tgt := 21) G0.1 G0.2.1 dX12_term_80 (by decide) ?_
              exact ih_21 ((mi f u 2 - mi f_154 u 3).toNat) (by omega) r_157 L_153 f_154 _ _ ls rfl hWF hKP hFK hMB hTR (by first | omega | (intros; omega)) (by first | omega | (intros; omega)) (by first | omega | (intros; omega)) (by first | omega | (intros; omega)) (fun hc => by have hy : mi f_154 u 3 = rs_sk gb nb ((rs_at gb nb eb) (mi f_j21 u 3 + 1)).2 := (by omega); have hs := rs_sk_a hy; exact ⟨rs_af_sk1 hX (by omega) hy, (by rw [hs, hy]; omega), hs⟩) (fun hc hw => rs_af_e2 hX (by omega) (rs_co_n3 (by omega) (by omega)) (by omega)) (fun hc hw => absurd (show mi f_154 u 4 = -1 by omega) hw) hw (lv_sub hl [0, 1] rfl)
          refine lv_icmp_ne (tgt := 58) G0.1 G0.2.1 dX12_term_51 (by decide) (fun c_172 => ?_) (fun c_172 => ?_)
          · skip
            have tc_172 := ti_ne c_172
            refine lv_iconst (v := 5) G0.1 G0.2.1 dX12_term_58 (by decide) ?_
            exact jn_59 5 _ _ ls ⟨by omega, by omega⟩ hw (lv_sub hl [0, 1] rfl)
          · skip
            have tc_172 := ti_eq c_172
            refine lv_iconst (v := 4) G0.1 G0.2.1 dX12_term_54 (by decide) ?_
            refine lv_goto (tgt := 59) G0.1 G0.2.1 dX12_term_55 (by decide) ?_
            exact jn_59 4 _ _ ls ⟨by omega, by omega⟩ hw (lv_sub hl [0, 1] rfl)
        · skip
          have tc_64 := ti_ne c_64
          refine lv_iload_n G0.1 G0.2.1 dX12_term_27 rfl (lv_at hl 0 rfl) ?_
          refine lv_bipush (v := 47) G0.1 G0.2.1 dX12_term_28 (by decide) ?_
          refine lv_icmp_ne (tgt := 83) G0.1 G0.2.1 dX12_term_30 (by decide) (fun c_173 => ?_) (fun c_173 => ?_)
          · skip
            have tc_173 := ti_ne c_173
            exact py_vret G0 hr hlk hw ⟨(by first | omega | (intro q; omega)), (by first | omega | (intro q; omega)), hTR, (by intro hw; rcases Decidable.em (v_63.toInt = -1) with hc | hc; (have hE : (rs_tm gb nb eb pb) = (1, mi f_j21 u 3) := iv5 hc hw; rw [hE]; exact ⟨(show (1 : Int) ≠ 0 by decide), rfl⟩); (have hE : (rs_tm gb nb eb pb) = (1, mi f_j21 u 3) := (rs_af_ep (iv4 hc).1 (rs_co_n3 (by have hy := (iv4 hc).2.1; omega) (by have hy := (iv4 hc).2.1; omega))).trans (by rw [(iv4 hc).2.2]); rw [hE]; exact ⟨(show (1 : Int) ≠ 0 by decide), rfl⟩)), (by intro hw; have hc : v_63.toInt = -1 := Decidable.byContradiction (fun q => hw (iv2 q).1); have hE : (rs_tm gb nb eb pb) = (0, mi f_j21 u 4) := iv6 hc hw; rw [hE]; exact ⟨rfl, rfl⟩), hWF, hKP, hFK⟩ dX12_term_83
          · skip
            have tc_173 := ti_eq c_173
            replace iv2 := iv2 (by omega)
            refine lv_aload_n G0.1 G0.2.1 dX12_term_33 rfl (lv_at hl 1 rfl) ?_
            refine lv_dup G0.1 G0.2.1 dX12_term_34 rfl ?_
            obtain ⟨v_174, v_175, v_176, v_177, v_178, v_179, v_180, v_181, v_182, v_183, v_184, v_185, y_186, v_187, v_188, v_189, v_190, v_191, y_192, v_193, y_194, v_195, hr_208, b_196, b_197, b_198, b_199, b_200, b_201, b_202, b_203, b_204, b_205, b_206, b_207⟩ := wg_12 hWF Tu
            have tq_209 := mi_row hr_208 2 rfl
            have tq_210 := mi_row hr_208 3 rfl
            have bv_176 := wf_free v_176
            have tq_211 := mi_row hr_208 4 rfl
            have bv_177 := wf_free v_177
            have tq_212 := mi_row hr_208 5 rfl
            have bv_178 := wf_free v_178
            have tq_213 := mi_row hr_208 14 rfl
            refine py_get (C := RX12) (T := TX12) (N := 54) (k := 3) (v := .int v_176) G0 hw in_X12_term_X12 rfl hr_208 (by decide) (by decide +kernel) rfl dX12_term_35 ?_
            refine lv_iconst (v := 1) G0.1 G0.2.1 dX12_term_38 (by decide) ?_
            refine lv_iadd G0.1 G0.2.1 dX12_term_39 ?_
            refine lv_topi (fun x_214 ex_214 => ?_)
            first | have tx_214 := ti_add ex_214 (by omega -splitDisjunctions) (by omega -splitDisjunctions) | skip
            refine py_put (C := RX12) (T := TX12) (N := 54) (k := 3) (v := .int x_214) (fs' := [.int v_174, .ref (G.2 u 1), .int v_175, .int x_214, .int v_177, .int v_178, .ref (G.2 u 6), .ref (G.2 u 7), .ref (G.2 u 8), .ref (G.2 u 9), .ref (G.2 u 10), .ref (G.2 u 11), .ref (G.2 u 12), .int v_179, .int v_180, .ref (G.2 u 15), .ref (G.2 u 16), .ref (G.2 u 17), .ref (G.2 u 18), .int v_181, .int v_182, .ref (G.2 u 21), .ref (G.2 u 22), .ref (G.2 u 23), .int v_183, .int v_184, .ref (G.2 u 26), .ref (G.2 u 27), .ref (G.2 u 28), .int v_185, .long y_186, .int v_187, .int v_188, .int v_189, .int v_190, .ref (G.2 u 35), .ref (G.2 u 36), .ref (G.2 u 37), .ref (G.2 u 38), .ref (G.2 u 39), .ref (G.2 u 40), .ref (G.2 u 41), .ref (G.2 u 42), .int v_191, .ref (G.2 u 44), .ref (G.2 u 45), .ref (G.2 u 46), .ref (G.2 u 47), .long y_192, .ref (G.2 u 49), .ref (G.2 u 50), .int v_193, .long y_194, .int v_195]) (ty0 := tyX12) G0 hw tyX12_ok nmX12 in_X12_term_X12 rfl hr_208 (by decide) (by decide +kernel) rfl rfl rfl rfl (Nat.le_of_ble_eq_true rfl) rfl dX12_term_40 (fun f_215 H_216 locs h_217 x_218 hw => ?_)
            have hMB := hMB.kp (kp_f (KP.refl.upd hWF x_218 Tu (Or.inl (by decide)) : KP G [13] false f_j21 f_215) (wt12_1 hG Tu) (by decide) (by decide) (fun _ => by decide))
            have hFK := hFK.put hr_208 h_217 3 (by decide) rfl
            have cq_219 := cdv_own (f1 := f_j21) (f2 := f_215) hG hWF Tu x_218 (by have z1 := mi_row hr_208 14 rfl; have z2 := mi_row h_217 14 rfl; omega)
            have hTR := hTR.own hG hWF Tu x_218 (by have z1 := mi_row hr_208 14 rfl; have z2 := mi_row h_217 14 rfl; omega) (by intro q; have z1 := mi_row hr_208 4 rfl; have z2 := mi_row h_217 4 rfl; omega)
            have hKP := hKP.upd hWF x_218 Tu (Or.inl (by decide))
            have hWF := wf_upd hWF h_217 x_218 (by rw [Tu]; exact ⟨v_174, v_175, x_214, v_177, v_178, v_179, v_180, v_181, v_182, v_183, v_184, v_185, y_186, v_187, v_188, v_189, v_190, v_191, y_192, v_193, y_194, v_195, rfl, ⟨by omega, by omega⟩, ⟨by omega, by omega⟩, ⟨by omega, by omega⟩, ⟨by omega, by omega⟩, ⟨by omega, by omega⟩, ⟨by omega, by omega⟩, ⟨by omega, by omega⟩, ⟨by omega, by omega⟩, ⟨by omega, by omega⟩, ⟨by omega, by omega⟩, ⟨by omega, by omega⟩, ⟨by omega, by omega⟩⟩)
            have tq_220 := mi_row h_217 2 rfl
            have tq_221 := mi_row h_217 3 rfl
            have bx_214 := wf_free x_214
            have tq_222 := mi_row h_217 4 rfl
            have bv_177 := wf_free v_177
            have tq_223 := mi_row h_217 5 rfl
            have bv_178 := wf_free v_178
            have tq_224 := mi_row h_217 14 rfl
            refine lv_aload_n G0.1 G0.2.1 dX12_term_43 rfl (lv_at hl 1 rfl) ?_
            refine py_callv hw (va_runV (As := []) (rest := []) G0 (ih_atom L_j21 f_215 H_216.size u gb nb (mi f_j21 u 3 + 1) eb hWF Tu (show mi f_215 u 4 = -1 ∧ wb ≤ mi f_215 u 5 ∧ mi f_215 u 5 ≤ 6 ∧ 0 ≤ mi f_215 u 3 ∧ mi f_215 u 3 ≤ mi f_215 u 2 ∧ cdv f_215 G u ≤ mi f_215 u 3 by omega) (show mi f_215 u 2 = nb ∧ mi f_215 u 3 = (mi f_j21 u 3 + 1) by omega) (show mi f_215 u 5 = 6 - ((eb : Nat) : Int) by omega) hMB) (cwV 0 G0.2.2.2.2 g_X12_term_X12_atom_174 rfl rfl rfl (by decide +kernel) ⟨(show f_atom + 1 ≤ fr + 1 by omega), (show 8 + (2 + 11) + l_atom ≤ lo + 60 by omega)⟩) (py_preV hw (C := RX12) (T := TX12) (N := 54) rfl h_217) rfl rfl hl.1 rfl (lv_room (Nat.le_of_ble_eq_true rfl)) dX12_term_44 ⟨(Nat.le_of_ble_eq_true rfl), (Nat.le_of_ble_eq_true rfl)⟩) (fun L_225 f_226 H_227 locs hp_228 hw => ?_)
            obtain ⟨en_230, en_231, en_232, en_233, en_234, hWF, kp_235, fk_236⟩ := hp_228
            have hMB := hMB.kp (kp_f kp_235 (wt12_1 hG Tu) (by decide) (by decide) (fun _ => by decide))
            have hFK := hFK.trans fk_236 (by decide)
            have hKP := hKP.trans kp_235 (by decide) (by decide)
            obtain ⟨v_237, v_238, v_239, hr_240⟩ := fk_3_4_5 hWF Tu fk_236 h_217
            have tq_241 := mi_row hr_240 2 rfl
            have tq_242 := mi_row hr_240 3 rfl
            have bv_237 := wf_free v_237
            have tq_243 := mi_row hr_240 4 rfl
            have bv_238 := wf_free v_238
            have tq_244 := mi_row hr_240 5 rfl
            have bv_239 := wf_free v_239
            have tq_245 := mi_row hr_240 14 rfl
            have hTR : TR f f_226 G u (14 - 2 * wb) 0 2 := hTR.trans (en_232.lift (b := 1) (by omega) (by omega) (by omega) (by omega)) (fun q => by omega)
            have hX : (rs_tm gb nb eb pb) = rs_af (rs_at gb nb eb) 3 gb nb ((rs_at gb nb eb) (mi f_j21 u 3 + 1)) := (rs_af_onp (iv4 (by omega)).1 (by decide) (rs_co_y3 (by have hy := (iv4 (by omega)).2.1; omega)) (by omega) (show (mi f_j21 u 3 + 1) = _ by rw [(iv4 (by omega)).2.2])).trans (rs_lp_af (fun hx => by omega))
            refine lv_aload_n G0.1 G0.2.1 dX12_term_47 rfl (lv_at hl 1 rfl) ?_
            refine lv_iload_n G0.1 G0.2.1 dX12_term_48 rfl (lv_at hl 0 rfl) ?_
            refine lv_bipush (v := 42) G0.1 G0.2.1 dX12_term_49 (by decide) ?_
            have jn_59 : ∀ (v_246 : Int32) (H_j59 : Heap) (locs : List Loc) (ls : Array Slot), (4 ≤ v_246.toInt ∧ v_246.toInt ≤ 5) → py_W E (va_A (va_pl L f) s.heap.size) s L_225 f_226 H_j59 locs → lv_has ls 2 [(1, .int v_63), (0, .ref u)] → W p l e (headSpec w_X12_term ({ frames := fr + 1, cells := 0, slots := 0, locals := lo + 60 })).room s m ([.ref u] : List Value).toArray below meth c H_j59 locs 0 0 (MQ below (py_Qv E L f s.heap.size (fun L1 f1 => (mi f u 3 ≤ mi f1 u 3 ∧ cdv f1 G u - cdv f G u ≤ mi f1 u 3 - mi f u 3 ∧ mi f1 u 3 ≤ 167 - mi f u 5) ∧ (mi f1 u 4 = -1 → mi f1 u 5 = mi f u 5 ∧ mi f1 u 3 ≤ mi f u 2) ∧ (TR f f1 G u (14 - 2 * wb) 0 1) ∧ (mi f1 u 4 = -1 → (rs_tm gb nb eb pb).1 ≠ 0 ∧ mi f1 u 3 = (rs_tm gb nb eb pb).2) ∧ (mi f1 u 4 ≠ -1 → (rs_tm gb nb eb pb).1 = 0 ∧ mi f1 u 4 = (rs_tm gb nb eb pb).2) ∧ WF E G L1 f1 ∧ KP G [41, 42, 43, 13] false f f1 ∧ FK [3, 4, 5] f f1 u)) ([.ref u] : List Value).toArray s 0 0 (va_A (va_pl L f) s.heap.size)) (F0 m 59 ls [.int v_246, .ref u]) := by
              intro v_246 H_j59 locs ls bv_246 hw hl
              refine lv_iconst (v := 0) G0.1 G0.2.1 dX12_term_59 (by decide) ?_
              refine py_callv hw (va_runV (As := [.int v_246, .int 0]) (rest := []) G0 (c_X12_put l E G L_225 f_226 H_j59.size u v_246 0 hG hWF Tu (show cdv f_226 G u ≤ 339 by omega)) (cwV 2 G0.2.2.2.2 g_X12_term_X12_put_156 rfl rfl rfl (by decide +kernel) ⟨(show 0 + 1 ≤ fr + 1 by omega), (show 8 + (3 + 11) + 0 ≤ lo + 60 by omega)⟩) (py_preV hw (C := RX12) (T := TX12) (N := 54) rfl hr_240) rfl rfl hl.1 rfl (lv_room (Nat.le_of_ble_eq_true rfl)) dX12_term_60 ⟨(Nat.le_of_ble_eq_true rfl), (Nat.le_of_ble_eq_true rfl)⟩) (fun L_247 f_248 H_249 locs hp_250 hw => ?_)
              obtain ⟨en_252, en_253, hWF, kp_254, fk_255⟩ := hp_250
              have en_252 : PT f_226 f_248 G u v_246 (0 : Int32) := en_252
              have hMB := hMB.kp (kp_f kp_254 (wt12_1 hG Tu) (by decide) (by decide) (fun _ => by decide))
              have hFK := hFK.trans fk_255 (by decide)
              have hKP := hKP.trans kp_254 (by decide) (by decide)
              have hr_240 := kp_at kp_254 hWF Tu (by decide) (by decide) (by decide) hr_240
              have tq_256 := mi_row hr_240 2 rfl
              have tq_257 := mi_row hr_240 3 rfl
              have bv_237 := wf_free v_237
              have tq_258 := mi_row hr_240 4 rfl
              have bv_238 := wf_free v_238
              have tq_259 := mi_row hr_240 5 rfl
              have bv_239 := wf_free v_239
              have tq_260 := mi_row hr_240 14 rfl
              have hTR : TR f f_248 G u (14 - 2 * wb) 0 1 := hTR.trans (en_252.tr (by omega)) (fun q => by omega)
              refine lv_aload_n G0.1 G0.2.1 dX12_term_63 rfl (lv_at hl 1 rfl) ?_
              refine py_get (C := RX12) (T := TX12) (N := 54) (k := 4) (v := .int v_238) G0 hw in_X12_term_X12 rfl hr_240 (by decide) (by decide +kernel) rfl dX12_term_64 ?_
              refine lv_iconst (v := (-1)) G0.1 G0.2.1 dX12_term_67 (by decide) ?_
              refine lv_icmp_ne (tgt := 78) G0.1 G0.2.1 dX12_term_68 (by decide) (fun c_261 => ?_) (fun c_261 => ?_)
              · skip
                have tc_261 := ti_ne c_261
                clear en_231
                clear en_233
                replace en_234 := en_234 (by omega)
                refine lv_iconst (v := (-1)) G0.1 G0.2.1 dX12_term_78 (by decide) ?_
                refine lv_istore_n (lv' := [(1, .int (-1)), (0, .ref u)]) G0.1 G0.2.1 dX12_term_79 rfl hl (by decide) rfl (fun ls hl => ?_)
                refine lv_goto (tgt := 21) G0.1 G0.2.1 dX12_term_80 (by decide) ?_
                exact ih_21 ((mi f u 2 - mi f_248 u 3).toNat) (by omega) (-1) L_247 f_248 _ _ ls rfl hWF hKP hFK hMB hTR (by first | omega | (intros; omega)) (by first | omega | (intros; omega)) (by first | omega | (intros; omega)) (by first | omega | (intros; omega)) (fun hc => absurd kcm1 hc) (fun hc hw => absurd hw (by omega)) (fun hc hw => rs_af_w0 hX (by omega) (by omega)) hw (lv_sub hl [0, 1] rfl)
              · skip
                have tc_261 := ti_eq c_261
                replace en_231 := en_231 (by omega)
                replace en_233 := en_233 (by omega)
                clear en_234
                refine lv_aload_n G0.1 G0.2.1 dX12_term_71 rfl (lv_at hl 1 rfl) ?_
                refine py_calli hw (va_runV (As := []) (rest := []) G0 (c_X12_look l E G L_247 f_248 H_249.size u gb nb ((rs_at gb nb eb) (mi f_j21 u 3 + 1)).2 hG hWF Tu (show 0 ≤ mi f_248 u 3 ∧ mi f_248 u 3 ≤ mi f_248 u 2 by omega) (show mi f_248 u 3 = ((rs_at gb nb eb) (mi f_j21 u 3 + 1)).2 by omega) (show mi f_248 u 2 = nb ∧ 0 ≤ ((rs_at gb nb eb) (mi f_j21 u 3 + 1)).2 by omega) hMB) (cwV 0 G0.2.2.2.2 g_X12_term_X12_look_146 rfl rfl rfl (by decide +kernel) ⟨(show 1 + 1 ≤ fr + 1 by omega), (show 8 + (1 + 11) + 20 ≤ lo + 60 by omega)⟩) (py_preV hw (C := RX12) (T := TX12) (N := 54) rfl hr_240) rfl rfl hl.1 rfl (lv_room (Nat.le_of_ble_eq_true rfl)) dX12_term_72 ⟨(Nat.le_of_ble_eq_true rfl), (Nat.le_of_ble_eq_true rfl)⟩) (fun r_266 L_262 f_263 H_264 locs hp_265 hw => ?_)
                obtain ⟨en_267, en_268, en_269, en_270, hWF, kp_271, fk_272⟩ := hp_265
                have hMB := hMB.kp (kp_f kp_271 (wt12_1 hG Tu) (by decide) (by decide) (fun _ => by decide))
                have cq_273 := cdv_k hG Tu kp_271 fk_272 (by decide)
                have hFK := hFK.trans fk_272 (by decide)
                have hKP := hKP.trans kp_271 (by decide) (by decide)
                obtain ⟨v_274, hr_275⟩ := fk_3 hWF Tu fk_272 hr_240
                have tq_276 := mi_row hr_275 2 rfl
                have tq_277 := mi_row hr_275 3 rfl
                have bv_274 := wf_free v_274
                have tq_278 := mi_row hr_275 4 rfl
                have bv_238 := wf_free v_238
                have tq_279 := mi_row hr_275 5 rfl
                have bv_239 := wf_free v_239
                have tq_280 := mi_row hr_275 14 rfl
                have hTR := hTR.kp hG Tu kp_271 fk_272 (by decide) (fun q => by omega)
                have br_266 := wf_free r_266
                refine lv_goto (tgt := 79) G0.1 G0.2.1 dX12_term_75 (by decide) ?_
                refine lv_istore_n (lv' := [(1, .int r_266), (0, .ref u)]) G0.1 G0.2.1 dX12_term_79 rfl hl (by decide) rfl (fun ls hl => ?_)
                refine lv_goto (tgt := 21) G0.1 G0.2.1 dX12_term_80 (by decide) ?_
                exact ih_21 ((mi f u 2 - mi f_263 u 3).toNat) (by omega) r_266 L_262 f_263 _ _ ls rfl hWF hKP hFK hMB hTR (by first | omega | (intros; omega)) (by first | omega | (intros; omega)) (by first | omega | (intros; omega)) (by first | omega | (intros; omega)) (fun hc => by have hy : mi f_263 u 3 = rs_sk gb nb ((rs_at gb nb eb) (mi f_j21 u 3 + 1)).2 := (by omega); have hs := rs_sk_a hy; exact ⟨rs_af_sk1 hX (by omega) hy, (by rw [hs, hy]; omega), hs⟩) (fun hc hw => rs_af_e2 hX (by omega) (rs_co_n3 (by omega) (by omega)) (by omega)) (fun hc hw => absurd (show mi f_263 u 4 = -1 by omega) hw) hw (lv_sub hl [0, 1] rfl)
            refine lv_icmp_ne (tgt := 58) G0.1 G0.2.1 dX12_term_51 (by decide) (fun c_281 => ?_) (fun c_281 => ?_)
            · skip
              have tc_281 := ti_ne c_281
              refine lv_iconst (v := 5) G0.1 G0.2.1 dX12_term_58 (by decide) ?_
              exact jn_59 5 _ _ ls ⟨by omega, by omega⟩ hw (lv_sub hl [0, 1] rfl)
            · skip
              have tc_281 := ti_eq c_281
              refine lv_iconst (v := 4) G0.1 G0.2.1 dX12_term_54 (by decide) ?_
              refine lv_goto (tgt := 59) G0.1 G0.2.1 dX12_term_55 (by decide) ?_
              exact jn_59 4 _ _ ls ⟨by omega, by omega⟩ hw (lv_sub hl [0, 1] rfl)
    exact lo_21 _ v_62 L_j20 f_j20 _ _ ls rfl hWF hKP hFK hMB hTR (by first | omega | (intros; omega)) (by first | omega | (intros; omega)) (by first | omega | (intros; omega)) (by first | omega | (intros; omega)) jv4 jv5 jv6 hw (lv_sub hl [0, 1] rfl)
  refine lv_icmp_ne (tgt := 19) G0.1 G0.2.1 dX12_term_9 (by decide) (fun c_282 => ?_) (fun c_282 => ?_)
  · skip
    have tc_282 := ti_ne c_282
    clear en_47
    clear en_49
    replace en_50 := en_50 (by omega)
    refine lv_iconst (v := (-1)) G0.1 G0.2.1 dX12_term_19 (by decide) ?_
    exact jn_20 (-1) L_41 f_42 _ _ ls hWF hKP hFK hMB hTR (by first | omega | (intros; omega)) (by first | omega | (intros; omega)) (by first | omega | (intros; omega)) (by first | omega | (intros; omega)) (fun hc => absurd kcm1 hc) (fun hc hw => absurd hw (by omega)) (fun hc hw => rs_af_w0 hX (by omega) (by omega)) hw (lv_sub hl [0] rfl)
  · skip
    have tc_282 := ti_eq c_282
    replace en_47 := en_47 (by omega)
    replace en_49 := en_49 (by omega)
    clear en_50
    refine lv_aload_n G0.1 G0.2.1 dX12_term_12 rfl (lv_at hl 0 rfl) ?_
    refine py_calli hw (va_runV (As := []) (rest := []) G0 (c_X12_look l E G L_41 f_42 H_43.size u gb nb ((rs_at gb nb eb) pb).2 hG hWF Tu (show 0 ≤ mi f_42 u 3 ∧ mi f_42 u 3 ≤ mi f_42 u 2 by omega) (show mi f_42 u 3 = ((rs_at gb nb eb) pb).2 by omega) (show mi f_42 u 2 = nb ∧ 0 ≤ ((rs_at gb nb eb) pb).2 by omega) hMB) (cwV 0 G0.2.2.2.2 g_X12_term_X12_look_146 rfl rfl rfl (by decide +kernel) ⟨(show 1 + 1 ≤ fr + 1 by omega), (show 8 + (1 + 11) + 20 ≤ lo + 60 by omega)⟩) (py_preV hw (C := RX12) (T := TX12) (N := 54) rfl hr_56) rfl rfl hl.1 rfl (lv_room (Nat.le_of_ble_eq_true rfl)) dX12_term_13 ⟨(Nat.le_of_ble_eq_true rfl), (Nat.le_of_ble_eq_true rfl)⟩) (fun r_287 L_283 f_284 H_285 locs hp_286 hw => ?_)
    obtain ⟨en_288, en_289, en_290, en_291, hWF, kp_292, fk_293⟩ := hp_286
    have hMB := hMB.kp (kp_f kp_292 (wt12_1 hG Tu) (by decide) (by decide) (fun _ => by decide))
    have cq_294 := cdv_k hG Tu kp_292 fk_293 (by decide)
    have hFK := hFK.trans fk_293 (by decide)
    have hKP := hKP.trans kp_292 (by decide) (by decide)
    obtain ⟨v_295, hr_296⟩ := fk_3 hWF Tu fk_293 hr_56
    have tq_297 := mi_row hr_296 2 rfl
    have tq_298 := mi_row hr_296 3 rfl
    have bv_295 := wf_free v_295
    have tq_299 := mi_row hr_296 4 rfl
    have bv_54 := wf_free v_54
    have tq_300 := mi_row hr_296 5 rfl
    have bv_55 := wf_free v_55
    have tq_301 := mi_row hr_296 14 rfl
    have hTR := hTR.kp hG Tu kp_292 fk_293 (by decide) (fun q => by omega)
    have br_287 := wf_free r_287
    refine lv_goto (tgt := 20) G0.1 G0.2.1 dX12_term_16 (by decide) ?_
    exact jn_20 r_287 L_283 f_284 _ _ ls hWF hKP hFK hMB hTR (by first | omega | (intros; omega)) (by first | omega | (intros; omega)) (by first | omega | (intros; omega)) (by first | omega | (intros; omega)) (fun hc => by have hy : mi f_284 u 3 = rs_sk gb nb ((rs_at gb nb eb) pb).2 := (by omega); have hs := rs_sk_a hy; exact ⟨rs_af_sk1 hX (by omega) hy, (by rw [hs, hy]; omega), hs⟩) (fun hc hw => rs_af_e2 hX (by omega) (rs_co_n3 (by omega) (by omega)) (by omega)) (fun hc hw => absurd (show mi f_284 u 4 = -1 by omega) hw) hw (lv_sub hl [0] rfl)
