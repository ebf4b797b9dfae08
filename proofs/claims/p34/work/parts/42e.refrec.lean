set_option maxHeartbeats 4000000 in
set_option maxRecDepth 100000 in
theorem q_goOnAnd (l : Launch) (E : py_E) (G : wf_G) (hG : GT G) (wb : Int) (hwb : 0 ≤ wb) (fr lo : Nat) (hfr : 10 ≤ fr) (hlo : 300 ≤ lo) (f_unit l_unit : Nat) (x_unit : f_unit ≤ fr) (z_unit : l_unit ≤ lo) (ih_unit : Q_unit l E G wb f_unit l_unit) : Q_goOnAnd l E G wb (fr + 1) (lo + 60) := by
  intro L f sz u gb nb eb w0 hWF Tu hp0 hp1 hp2 hp3 hq0
  refine Met.ofW (cc := cX12_goOnAnd) (maxL := 1) (ret := none) (by decide) rfl ?_
  intro p e s m args below meth c s₁ B hml hv
  obtain ⟨rfl, rfl, hw⟩ := py_start hv
  have G0 : CallFix p m c cX12_goOnAnd 1 s _ w_X12_goOnAnd RX12 := ⟨B.exec, B.bytes, hml, findClass_of_methodNamed B.named, atoms_spec (ws := w_X12_goOnAnd) B.pre⟩
  have hr := B.returns
  have hlk := B.notSynchronized
  have kcm1 : (-1 : Int32).toInt = -1 := rfl
  have kc0 : (0 : Int32).toInt = 0 := rfl
  have kc1 : (1 : Int32).toInt = 1 := rfl
  have kc10 : (10 : Int32).toInt = 10 := rfl
  have kc38 : (38 : Int32).toInt = 38 := rfl
  have hl := lv_entry ([.ref u]) (n := 1) (Nat.le_of_ble_eq_true rfl)
  rw [lg_entry_eq]
  generalize (lg_sl ([.ref u]) ++ List.replicate (1 - (lg_sl ([.ref u])).length) Slot.unset).toArray = ls at hl ⊢
  have hl : lv_has ls 1 [(0, .ref u)] := hl
  have hKP : KP G [41, 42, 43, 13] false f f := KP.refl
  have hFK : FK [3, 4, 5] f f u := FK.refl
  have hMB := hq0
  obtain ⟨v_1, v_2, v_3, v_4, v_5, v_6, v_7, v_8, v_9, v_10, v_11, v_12, y_13, v_14, v_15, v_16, v_17, v_18, y_19, v_20, y_21, v_22, hr_35, b_23, b_24, b_25, b_26, b_27, b_28, b_29, b_30, b_31, b_32, b_33, b_34⟩ := wg_12 hWF Tu
  have tq_36 := mi_row hr_35 2 rfl
  have tq_37 := mi_row hr_35 3 rfl
  have bv_3 := wf_free v_3
  have tq_38 := mi_row hr_35 4 rfl
  have bv_4 := wf_free v_4
  have tq_39 := mi_row hr_35 5 rfl
  have bv_5 := wf_free v_5
  have tq_40 := mi_row hr_35 14 rfl
  have hcd := cdv_rng hG hWF Tu (by omega) (by omega)
  have hTR : TR f f G u (19 - 2 * wb) 1 1 := TR.refl (by omega) (by omega)
  have lo_0 : ∀ n_0 : Nat, ∀ (L_j0 : List Nat) (f_j0 : py_F) (H_j0 : Heap) (locs : List Loc) (ls : Array Slot), (mi f u 2 - mi f_j0 u 3).toNat = n_0 → WF E G L_j0 f_j0 → KP G [41, 42, 43, 13] false f f_j0 → FK [3, 4, 5] f f_j0 u → TR f f_j0 G u (19 - 2 * wb) 1 1 → AG f_j0 (G.2 u 1) gb nb → (mi f u 3 ≤ mi f_j0 u 3 ∧ cdv f_j0 G u - cdv f G u ≤ mi f_j0 u 3 - mi f u 3) → (mi f u 4 = -1 → mi f_j0 u 3 ≤ 167 - mi f u 5) → (mi f u 4 ≠ -1 → mi f_j0 u 3 = mi f u 3 ∧ mi f_j0 u 4 ≠ -1) → (mi f_j0 u 4 = -1 → mi f_j0 u 5 = mi f u 5 ∧ mi f_j0 u 3 ≤ mi f u 2) → (mi f_j0 u 2 = mi f u 2) → (mi f_j0 u 4 = -1 → (rs_af (rs_un gb nb eb) 1 gb nb w0) = rs_af (rs_un gb nb eb) 1 gb nb (1, mi f_j0 u 3)) → (mi f_j0 u 4 ≠ -1 → (rs_af (rs_un gb nb eb) 1 gb nb w0) = (0, mi f_j0 u 4)) → py_W E (va_A (va_pl L f) s.heap.size) s L_j0 f_j0 H_j0 locs → lv_has ls 1 [(0, .ref u)] → W p l e (headSpec w_X12_goOnAnd ({ frames := fr + 1, cells := 0, slots := 0, locals := lo + 60 })).room s m ([.ref u] : List Value).toArray below meth c H_j0 locs 0 0 (MQ below (py_Qv E L f s.heap.size (fun L1 f1 => (mi f u 3 ≤ mi f1 u 3 ∧ cdv f1 G u - cdv f G u ≤ mi f1 u 3 - mi f u 3) ∧ (mi f u 4 = -1 → mi f1 u 3 ≤ 167 - mi f u 5) ∧ (mi f u 4 ≠ -1 → mi f1 u 3 = mi f u 3 ∧ mi f1 u 4 ≠ -1) ∧ (mi f1 u 4 = -1 → mi f1 u 5 = mi f u 5 ∧ mi f1 u 3 ≤ mi f u 2) ∧ (TR f f1 G u (19 - 2 * wb) 1 1) ∧ (mi f1 u 4 = -1 → (rs_af (rs_un gb nb eb) 1 gb nb w0).1 ≠ 0 ∧ mi f1 u 3 = (rs_af (rs_un gb nb eb) 1 gb nb w0).2) ∧ (mi f1 u 4 ≠ -1 → (rs_af (rs_un gb nb eb) 1 gb nb w0).1 = 0 ∧ mi f1 u 4 = (rs_af (rs_un gb nb eb) 1 gb nb w0).2) ∧ WF E G L1 f1 ∧ KP G [41, 42, 43, 13] false f f1 ∧ FK [3, 4, 5] f f1 u)) ([.ref u] : List Value).toArray s 0 0 (va_A (va_pl L f) s.heap.size)) (F0 m 0 ls []) := by
    intro n_0
    induction n_0 using Nat.strongRecOn with
    | _ n_0 ih_0 =>
      intro L_j0 f_j0 H_j0 locs ls hn_0 hWF hKP hFK hTR hMB iv0 iv1 iv2 iv3 iv4 iv5 iv6 hw hl
      refine lv_aload_n G0.1 G0.2.1 dX12_goOnAnd_0 rfl (lv_at hl 0 rfl) ?_
      obtain ⟨v_41, v_42, v_43, v_44, v_45, v_46, v_47, v_48, v_49, v_50, v_51, v_52, y_53, v_54, v_55, v_56, v_57, v_58, y_59, v_60, y_61, v_62, hr_75, b_63, b_64, b_65, b_66, b_67, b_68, b_69, b_70, b_71, b_72, b_73, b_74⟩ := wg_12 hWF Tu
      have tq_76 := mi_row hr_75 2 rfl
      have tq_77 := mi_row hr_75 3 rfl
      have bv_43 := wf_free v_43
      have tq_78 := mi_row hr_75 4 rfl
      have bv_44 := wf_free v_44
      have tq_79 := mi_row hr_75 5 rfl
      have bv_45 := wf_free v_45
      have tq_80 := mi_row hr_75 14 rfl
      refine py_get (C := RX12) (T := TX12) (N := 54) (k := 4) (v := .int v_44) G0 hw in_X12_goOnAnd_X12 rfl hr_75 (by decide) (by decide +kernel) rfl dX12_goOnAnd_1 ?_
      refine lv_iconst (v := (-1)) G0.1 G0.2.1 dX12_goOnAnd_4 (by decide) ?_
      refine lv_icmp_ne (tgt := 41) G0.1 G0.2.1 dX12_goOnAnd_5 (by decide) (fun c_81 => ?_) (fun c_81 => ?_)
      · skip
        have tc_81 := ti_ne c_81
        exact py_vret G0 hr hlk hw ⟨(by first | omega | (intro q; omega)), (by first | omega | (intro q; omega)), (by first | omega | (intro q; omega)), (by first | omega | (intro q; omega)), hTR, (fun hw => absurd hw (by omega)), (by intro hw; have hE : (rs_af (rs_un gb nb eb) 1 gb nb w0) = (0, mi f_j0 u 4) := iv6 hw; rw [hE]; exact ⟨rfl, rfl⟩), hWF, hKP, hFK⟩ dX12_goOnAnd_41
      · skip
        have tc_81 := ti_eq c_81
        refine lv_aload_n G0.1 G0.2.1 dX12_goOnAnd_8 rfl (lv_at hl 0 rfl) ?_
        refine py_calli hw (va_runV (As := []) (rest := []) G0 (c_X12_look l E G L_j0 f_j0 H_j0.size u gb nb (mi f_j0 u 3) hG hWF Tu (show 0 ≤ mi f_j0 u 3 ∧ mi f_j0 u 3 ≤ mi f_j0 u 2 by omega) (show mi f_j0 u 3 = (mi f_j0 u 3) by omega) (show mi f_j0 u 2 = nb ∧ 0 ≤ (mi f_j0 u 3) by omega) hMB) (cwV 0 G0.2.2.2.2 g_X12_goOnAnd_X12_look_146 rfl rfl rfl (by decide +kernel) ⟨(show 1 + 1 ≤ fr + 1 by omega), (show 8 + (1 + 11) + 20 ≤ lo + 60 by omega)⟩) (py_preV hw (C := RX12) (T := TX12) (N := 54) rfl hr_75) rfl rfl hl.1 rfl (lv_room (Nat.le_of_ble_eq_true rfl)) dX12_goOnAnd_9 ⟨(Nat.le_of_ble_eq_true rfl), (Nat.le_of_ble_eq_true rfl)⟩) (fun r_86 L_82 f_83 H_84 locs hp_85 hw => ?_)
        obtain ⟨en_87, en_88, en_89, en_90, hWF, kp_91, fk_92⟩ := hp_85
        have hMB := hMB.kp (kp_f kp_91 (wt12_1 hG Tu) (by decide) (by decide) (fun _ => by decide))
        have cq_93 := cdv_k hG Tu kp_91 fk_92 (by decide)
        have hFK := hFK.trans fk_92 (by decide)
        have hKP := hKP.trans kp_91 (by decide) (by decide)
        obtain ⟨v_94, hr_95⟩ := fk_3 hWF Tu fk_92 hr_75
        have tq_96 := mi_row hr_95 2 rfl
        have tq_97 := mi_row hr_95 3 rfl
        have bv_94 := wf_free v_94
        have tq_98 := mi_row hr_95 4 rfl
        have bv_44 := wf_free v_44
        have tq_99 := mi_row hr_95 5 rfl
        have bv_45 := wf_free v_45
        have tq_100 := mi_row hr_95 14 rfl
        have hTR := hTR.kp hG Tu kp_91 fk_92 (by decide) (fun q => by omega)
        have br_86 := wf_free r_86
        refine lv_bipush (v := 38) G0.1 G0.2.1 dX12_goOnAnd_12 (by decide) ?_
        refine lv_icmp_ne (tgt := 41) G0.1 G0.2.1 dX12_goOnAnd_14 (by decide) (fun c_101 => ?_) (fun c_101 => ?_)
        · skip
          have tc_101 := ti_ne c_101
          exact py_vret G0 hr hlk hw ⟨(by first | omega | (intro q; omega)), (by first | omega | (intro q; omega)), (by first | omega | (intro q; omega)), (by first | omega | (intro q; omega)), hTR, (by intro hw; have hE : (rs_af (rs_un gb nb eb) 1 gb nb w0) = (1, rs_sk gb nb (mi f_j0 u 3)) := rs_af_ep (iv5 (by omega)) (rs_co_n1 (by omega)); rw [hE]; exact ⟨(show (1 : Int) ≠ 0 by decide), (show mi f_83 u 3 = rs_sk gb nb (mi f_j0 u 3) by omega)⟩), (fun hw => absurd (show mi f_83 u 4 = -1 by omega) hw), hWF, hKP, hFK⟩ dX12_goOnAnd_41
        · skip
          have tc_101 := ti_eq c_101
          replace en_88 := en_88 (by omega)
          have hla := en_90.1
          have hlv := en_90.2.resolve_right (fun z => by omega)
          clear en_90
          have hw0 : mi f u 4 = -1 := Decidable.byContradiction (fun q => (iv2 q).2 (by omega))
          replace iv1 := iv1 hw0
          clear iv2
          replace iv3 := iv3 (by omega)
          have hI5 := iv5 (by omega)
          clear iv5 iv6
          obtain ⟨hpa, hpb, hpc⟩ := hp0
          replace hpa := hpa hw0
          replace hp2 := hp2 hw0
          clear hp3
          refine lv_aload_n G0.1 G0.2.1 dX12_goOnAnd_17 rfl (lv_at hl 0 rfl) ?_
          refine lv_dup G0.1 G0.2.1 dX12_goOnAnd_18 rfl ?_
          refine py_get (C := RX12) (T := TX12) (N := 54) (k := 3) (v := .int v_94) G0 hw in_X12_goOnAnd_X12 rfl hr_95 (by decide) (by decide +kernel) rfl dX12_goOnAnd_19 ?_
          refine lv_iconst (v := 1) G0.1 G0.2.1 dX12_goOnAnd_22 (by decide) ?_
          refine lv_iadd G0.1 G0.2.1 dX12_goOnAnd_23 ?_
          refine lv_topi (fun x_102 ex_102 => ?_)
          first | have tx_102 := ti_add ex_102 (by omega -splitDisjunctions) (by omega -splitDisjunctions) | skip
          refine py_put (C := RX12) (T := TX12) (N := 54) (k := 3) (v := .int x_102) (fs' := [.int v_41, .ref (G.2 u 1), .int v_42, .int x_102, .int v_44, .int v_45, .ref (G.2 u 6), .ref (G.2 u 7), .ref (G.2 u 8), .ref (G.2 u 9), .ref (G.2 u 10), .ref (G.2 u 11), .ref (G.2 u 12), .int v_46, .int v_47, .ref (G.2 u 15), .ref (G.2 u 16), .ref (G.2 u 17), .ref (G.2 u 18), .int v_48, .int v_49, .ref (G.2 u 21), .ref (G.2 u 22), .ref (G.2 u 23), .int v_50, .int v_51, .ref (G.2 u 26), .ref (G.2 u 27), .ref (G.2 u 28), .int v_52, .long y_53, .int v_54, .int v_55, .int v_56, .int v_57, .ref (G.2 u 35), .ref (G.2 u 36), .ref (G.2 u 37), .ref (G.2 u 38), .ref (G.2 u 39), .ref (G.2 u 40), .ref (G.2 u 41), .ref (G.2 u 42), .int v_58, .ref (G.2 u 44), .ref (G.2 u 45), .ref (G.2 u 46), .ref (G.2 u 47), .long y_59, .ref (G.2 u 49), .ref (G.2 u 50), .int v_60, .long y_61, .int v_62]) (ty0 := tyX12) G0 hw tyX12_ok nmX12 in_X12_goOnAnd_X12 rfl hr_95 (by decide) (by decide +kernel) rfl rfl rfl rfl (Nat.le_of_ble_eq_true rfl) rfl dX12_goOnAnd_24 (fun f_103 H_104 locs h_105 x_106 hw => ?_)
          have hMB := hMB.kp (kp_f (KP.refl.upd hWF x_106 Tu (Or.inl (by decide)) : KP G [13] false f_83 f_103) (wt12_1 hG Tu) (by decide) (by decide) (fun _ => by decide))
          have hFK := hFK.put hr_95 h_105 3 (by decide) rfl
          have cq_107 := cdv_own (f1 := f_83) (f2 := f_103) hG hWF Tu x_106 (by have z1 := mi_row hr_95 14 rfl; have z2 := mi_row h_105 14 rfl; omega)
          have hTR := hTR.own hG hWF Tu x_106 (by have z1 := mi_row hr_95 14 rfl; have z2 := mi_row h_105 14 rfl; omega) (by intro q; have z1 := mi_row hr_95 4 rfl; have z2 := mi_row h_105 4 rfl; omega)
          have hKP := hKP.upd hWF x_106 Tu (Or.inl (by decide))
          have hWF := wf_upd hWF h_105 x_106 (by rw [Tu]; exact ⟨v_41, v_42, x_102, v_44, v_45, v_46, v_47, v_48, v_49, v_50, v_51, v_52, y_53, v_54, v_55, v_56, v_57, v_58, y_59, v_60, y_61, v_62, rfl, ⟨by omega, by omega⟩, ⟨by omega, by omega⟩, ⟨by omega, by omega⟩, ⟨by omega, by omega⟩, ⟨by omega, by omega⟩, ⟨by omega, by omega⟩, ⟨by omega, by omega⟩, ⟨by omega, by omega⟩, ⟨by omega, by omega⟩, ⟨by omega, by omega⟩, ⟨by omega, by omega⟩, ⟨by omega, by omega⟩⟩)
          have tq_108 := mi_row h_105 2 rfl
          have tq_109 := mi_row h_105 3 rfl
          have bx_102 := wf_free x_102
          have tq_110 := mi_row h_105 4 rfl
          have bv_44 := wf_free v_44
          have tq_111 := mi_row h_105 5 rfl
          have bv_45 := wf_free v_45
          have tq_112 := mi_row h_105 14 rfl
          refine lv_aload_n G0.1 G0.2.1 dX12_goOnAnd_27 rfl (lv_at hl 0 rfl) ?_
          refine py_callv hw (va_runV (As := []) (rest := []) G0 (ih_unit L_82 f_103 H_104.size u gb nb (rs_sk gb nb (mi f_j0 u 3) + 1) eb hWF Tu (show mi f_103 u 4 = -1 ∧ wb ≤ mi f_103 u 5 ∧ mi f_103 u 5 ≤ 6 ∧ 0 ≤ mi f_103 u 3 ∧ mi f_103 u 3 ≤ mi f_103 u 2 ∧ cdv f_103 G u ≤ mi f_103 u 3 by omega) (show mi f_103 u 2 = nb ∧ mi f_103 u 3 = (rs_sk gb nb (mi f_j0 u 3) + 1) by omega) (show mi f_103 u 5 = 6 - ((eb : Nat) : Int) by omega) hMB) (cwV 0 G0.2.2.2.2 g_X12_goOnAnd_X12_unit_183 rfl rfl rfl (by decide +kernel) ⟨(show f_unit + 1 ≤ fr + 1 by omega), (show 8 + (2 + 11) + l_unit ≤ lo + 60 by omega)⟩) (py_preV hw (C := RX12) (T := TX12) (N := 54) rfl h_105) rfl rfl hl.1 rfl (lv_room (Nat.le_of_ble_eq_true rfl)) dX12_goOnAnd_28 ⟨(Nat.le_of_ble_eq_true rfl), (Nat.le_of_ble_eq_true rfl)⟩) (fun L_113 f_114 H_115 locs hp_116 hw => ?_)
          obtain ⟨en_118, en_119, en_120, en_121, en_122, hWF, kp_123, fk_124⟩ := hp_116
          have hMB := hMB.kp (kp_f kp_123 (wt12_1 hG Tu) (by decide) (by decide) (fun _ => by decide))
          have hFK := hFK.trans fk_124 (by decide)
          have hKP := hKP.trans kp_123 (by decide) (by decide)
          obtain ⟨v_125, v_126, v_127, hr_128⟩ := fk_3_4_5 hWF Tu fk_124 h_105
          have tq_129 := mi_row hr_128 2 rfl
          have tq_130 := mi_row hr_128 3 rfl
          have bv_125 := wf_free v_125
          have tq_131 := mi_row hr_128 4 rfl
          have bv_126 := wf_free v_126
          have tq_132 := mi_row hr_128 5 rfl
          have bv_127 := wf_free v_127
          have tq_133 := mi_row hr_128 14 rfl
          have hTR : TR f f_114 G u (19 - 2 * wb) 1 2 := hTR.trans (en_120.lift (b := 1) (by omega) (by omega) (by omega) (by omega)) (fun q => by omega)
          have hX : (rs_af (rs_un gb nb eb) 1 gb nb w0) = rs_af (rs_un gb nb eb) 1 gb nb (rs_un gb nb eb (rs_sk gb nb (mi f_j0 u 3) + 1)) := (rs_af_onp hI5 (by decide) (rs_co_y1 (by omega)) (by omega) rfl).trans (rs_lp_af (fun hx => by rcases Decidable.em (mi f_114 u 4 = -1) with z | z; (have y := en_121 z; have y0 := en_118; omega); exact absurd (en_122 z).1 hx))
          have hRM : ∀ _ : Unit, _ ∧ _ := fun _ => ⟨en_121, en_122⟩
          clear en_121 en_122
          refine lv_aload_n G0.1 G0.2.1 dX12_goOnAnd_31 rfl (lv_at hl 0 rfl) ?_
          refine lv_bipush (v := 10) G0.1 G0.2.1 dX12_goOnAnd_32 (by decide) ?_
          refine lv_iconst (v := 0) G0.1 G0.2.1 dX12_goOnAnd_34 (by decide) ?_
          refine py_callv hw (va_runV (As := [.int 10, .int 0]) (rest := []) G0 (c_X12_put l E G L_113 f_114 H_115.size u 10 0 hG hWF Tu (show cdv f_114 G u ≤ 339 by omega)) (cwV 2 G0.2.2.2.2 g_X12_goOnAnd_X12_put_156 rfl rfl rfl (by decide +kernel) ⟨(show 0 + 1 ≤ fr + 1 by omega), (show 8 + (3 + 11) + 0 ≤ lo + 60 by omega)⟩) (py_preV hw (C := RX12) (T := TX12) (N := 54) rfl hr_128) rfl rfl hl.1 rfl (lv_room (Nat.le_of_ble_eq_true rfl)) dX12_goOnAnd_35 ⟨(Nat.le_of_ble_eq_true rfl), (Nat.le_of_ble_eq_true rfl)⟩) (fun L_134 f_135 H_136 locs hp_137 hw => ?_)
          obtain ⟨en_139, en_140, hWF, kp_141, fk_142⟩ := hp_137
          have en_139 : PT f_114 f_135 G u (10 : Int32) (0 : Int32) := en_139
          have hMB := hMB.kp (kp_f kp_141 (wt12_1 hG Tu) (by decide) (by decide) (fun _ => by decide))
          have hFK := hFK.trans fk_142 (by decide)
          have hKP := hKP.trans kp_141 (by decide) (by decide)
          have hr_128 := kp_at kp_141 hWF Tu (by decide) (by decide) (by decide) hr_128
          have tq_143 := mi_row hr_128 2 rfl
          have tq_144 := mi_row hr_128 3 rfl
          have bv_125 := wf_free v_125
          have tq_145 := mi_row hr_128 4 rfl
          have bv_126 := wf_free v_126
          have tq_146 := mi_row hr_128 5 rfl
          have bv_127 := wf_free v_127
          have tq_147 := mi_row hr_128 14 rfl
          have hTR : TR f f_135 G u (19 - 2 * wb) 1 1 := hTR.trans (en_139.tr (by omega)) (fun q => by omega)
          refine lv_goto (tgt := 0) G0.1 G0.2.1 dX12_goOnAnd_38 (by decide) ?_
          exact ih_0 ((mi f u 2 - mi f_135 u 3).toNat) (by omega) L_134 f_135 _ _ ls rfl hWF hKP hFK hTR hMB (by first | omega | (intros; omega)) (by first | omega | (intros; omega)) (by first | omega | (intros; omega)) (by first | omega | (intros; omega)) (by first | omega | (intros; omega)) (fun hw => by have hz := ((hRM ()).1 (by omega)); exact rs_af_w1 hX hz.1 (by omega)) (fun hw => by have hz := ((hRM ()).2 (by omega)); exact rs_af_w0 hX hz.1 (by omega)) hw (lv_sub hl [0] rfl)
  exact lo_0 _ L f _ _ ls rfl hWF hKP hFK hTR hMB (by first | omega | (intros; omega)) (by first | omega | (intros; omega)) (by first | omega | (intros; omega)) (by first | omega | (intros; omega)) (by first | omega | (intros; omega)) (fun hw => rs_af_w1 rfl (by omega) (by omega)) (fun hw => rs_af_w0 rfl (by omega) (by omega)) hw (lv_sub hl [0] rfl)
