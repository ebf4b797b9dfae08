theorem fk_3_4_5 {E : py_E} {G : wf_G} {L L1 : List Nat} {f f1 : py_F} {m : Nat} (hWF : WF E G L1 f1) (Tm : G.1 m = 13) (h : FK [3, 4, 5] f f1 m) {v0 : Int32} {v2 : Int32} {v3 : Int32} {v4 : Int32} {v5 : Int32} {v13 : Int32} {v14 : Int32} {v19 : Int32} {v20 : Int32} {v24 : Int32} {v25 : Int32} {v29 : Int32} {v30 : Int64} {v31 : Int32} {v32 : Int32} {v33 : Int32} {v34 : Int32} {v43 : Int32} {v48 : Int64} {v51 : Int32} {v52 : Int64} {v53 : Int32} (hr : py_at L f m (.inr (12, [.int v0, .ref (G.2 m 1), .int v2, .int v3, .int v4, .int v5, .ref (G.2 m 6), .ref (G.2 m 7), .ref (G.2 m 8), .ref (G.2 m 9), .ref (G.2 m 10), .ref (G.2 m 11), .ref (G.2 m 12), .int v13, .int v14, .ref (G.2 m 15), .ref (G.2 m 16), .ref (G.2 m 17), .ref (G.2 m 18), .int v19, .int v20, .ref (G.2 m 21), .ref (G.2 m 22), .ref (G.2 m 23), .int v24, .int v25, .ref (G.2 m 26), .ref (G.2 m 27), .ref (G.2 m 28), .int v29, .long v30, .int v31, .int v32, .int v33, .int v34, .ref (G.2 m 35), .ref (G.2 m 36), .ref (G.2 m 37), .ref (G.2 m 38), .ref (G.2 m 39), .ref (G.2 m 40), .ref (G.2 m 41), .ref (G.2 m 42), .int v43, .ref (G.2 m 44), .ref (G.2 m 45), .ref (G.2 m 46), .ref (G.2 m 47), .long v48, .ref (G.2 m 49), .ref (G.2 m 50), .int v51, .long v52, .int v53]))) : ∃ (w3 : Int32) (w4 : Int32) (w5 : Int32), py_at L1 f1 m (.inr (12, [.int v0, .ref (G.2 m 1), .int v2, .int w3, .int w4, .int w5, .ref (G.2 m 6), .ref (G.2 m 7), .ref (G.2 m 8), .ref (G.2 m 9), .ref (G.2 m 10), .ref (G.2 m 11), .ref (G.2 m 12), .int v13, .int v14, .ref (G.2 m 15), .ref (G.2 m 16), .ref (G.2 m 17), .ref (G.2 m 18), .int v19, .int v20, .ref (G.2 m 21), .ref (G.2 m 22), .ref (G.2 m 23), .int v24, .int v25, .ref (G.2 m 26), .ref (G.2 m 27), .ref (G.2 m 28), .int v29, .long v30, .int v31, .int v32, .int v33, .int v34, .ref (G.2 m 35), .ref (G.2 m 36), .ref (G.2 m 37), .ref (G.2 m 38), .ref (G.2 m 39), .ref (G.2 m 40), .ref (G.2 m 41), .ref (G.2 m 42), .int v43, .ref (G.2 m 44), .ref (G.2 m 45), .ref (G.2 m 46), .ref (G.2 m 47), .long v48, .ref (G.2 m 49), .ref (G.2 m 50), .int v51, .long v52, .int v53])) := by
  obtain ⟨w0, w2, w3, w4, w5, w13, w14, w19, w20, w24, w25, w29, w30, w31, w32, w33, w34, w43, w48, w51, w52, w53, hr1, b2, b13, b14, b19, b20, b24, b25, b29, b31, b43, b51, b53⟩ := wg_12 hWF Tm
  have e0 : w0 = v0 := Value.int.inj (Option.some.inj (show some (Value.int w0) = some (Value.int v0) from fk_i h hr hr1 0 (by decide) (by decide)))
  subst e0
  have e2 : w2 = v2 := Value.int.inj (Option.some.inj (show some (Value.int w2) = some (Value.int v2) from fk_i h hr hr1 2 (by decide) (by decide)))
  subst e2
  have e13 : w13 = v13 := Value.int.inj (Option.some.inj (show some (Value.int w13) = some (Value.int v13) from fk_i h hr hr1 13 (by decide) (by decide)))
  subst e13
  have e14 : w14 = v14 := Value.int.inj (Option.some.inj (show some (Value.int w14) = some (Value.int v14) from fk_i h hr hr1 14 (by decide) (by decide)))
  subst e14
  have e19 : w19 = v19 := Value.int.inj (Option.some.inj (show some (Value.int w19) = some (Value.int v19) from fk_i h hr hr1 19 (by decide) (by decide)))
  subst e19
  have e20 : w20 = v20 := Value.int.inj (Option.some.inj (show some (Value.int w20) = some (Value.int v20) from fk_i h hr hr1 20 (by decide) (by decide)))
  subst e20
  have e24 : w24 = v24 := Value.int.inj (Option.some.inj (show some (Value.int w24) = some (Value.int v24) from fk_i h hr hr1 24 (by decide) (by decide)))
  subst e24
  have e25 : w25 = v25 := Value.int.inj (Option.some.inj (show some (Value.int w25) = some (Value.int v25) from fk_i h hr hr1 25 (by decide) (by decide)))
  subst e25
  have e29 : w29 = v29 := Value.int.inj (Option.some.inj (show some (Value.int w29) = some (Value.int v29) from fk_i h hr hr1 29 (by decide) (by decide)))
  subst e29
  have e30 : w30 = v30 := Value.long.inj (Option.some.inj (show some (Value.long w30) = some (Value.long v30) from fk_i h hr hr1 30 (by decide) (by decide)))
  subst e30
  have e31 : w31 = v31 := Value.int.inj (Option.some.inj (show some (Value.int w31) = some (Value.int v31) from fk_i h hr hr1 31 (by decide) (by decide)))
  subst e31
  have e32 : w32 = v32 := Value.int.inj (Option.some.inj (show some (Value.int w32) = some (Value.int v32) from fk_i h hr hr1 32 (by decide) (by decide)))
  subst e32
  have e33 : w33 = v33 := Value.int.inj (Option.some.inj (show some (Value.int w33) = some (Value.int v33) from fk_i h hr hr1 33 (by decide) (by decide)))
  subst e33
  have e34 : w34 = v34 := Value.int.inj (Option.some.inj (show some (Value.int w34) = some (Value.int v34) from fk_i h hr hr1 34 (by decide) (by decide)))
  subst e34
  have e43 : w43 = v43 := Value.int.inj (Option.some.inj (show some (Value.int w43) = some (Value.int v43) from fk_i h hr hr1 43 (by decide) (by decide)))
  subst e43
  have e48 : w48 = v48 := Value.long.inj (Option.some.inj (show some (Value.long w48) = some (Value.long v48) from fk_i h hr hr1 48 (by decide) (by decide)))
  subst e48
  have e51 : w51 = v51 := Value.int.inj (Option.some.inj (show some (Value.int w51) = some (Value.int v51) from fk_i h hr hr1 51 (by decide) (by decide)))
  subst e51
  have e52 : w52 = v52 := Value.long.inj (Option.some.inj (show some (Value.long w52) = some (Value.long v52) from fk_i h hr hr1 52 (by decide) (by decide)))
  subst e52
  have e53 : w53 = v53 := Value.int.inj (Option.some.inj (show some (Value.int w53) = some (Value.int v53) from fk_i h hr hr1 53 (by decide) (by decide)))
  subst e53
  exact ⟨w3, w4, w5, hr1⟩
set_option maxHeartbeats 4000000 in
set_option maxRecDepth 100000 in
theorem q_atom (l : Launch) (E : py_E) (G : wf_G) (hG : GT G) (wb : Int) (hwb : 0 ≤ wb) (fr lo : Nat) (hfr : 10 ≤ fr) (hlo : 300 ≤ lo) (f_sum l_sum : Nat) (x_sum : f_sum ≤ fr) (z_sum : l_sum ≤ lo) (ih_sum : Q_sum l E G (wb + 1) f_sum l_sum) : Q_atom l E G wb (fr + 1) (lo + 60) := by
  intro L f sz u hWF Tu hp0
  refine Met.ofW (cc := cX12_atom) (maxL := 2) (ret := none) (by decide) rfl ?_
  intro p e s m args below meth c s₁ B hml hv
  obtain ⟨rfl, rfl, hw⟩ := py_start hv
  have G0 : CallFix p m c cX12_atom 2 s _ w_X12_atom RX12 := ⟨B.exec, B.bytes, hml, findClass_of_methodNamed B.named, atoms_spec (ws := w_X12_atom) B.pre⟩
  have hr := B.returns
  have hlk := B.notSynchronized
  have kcm1 : (-1 : Int32).toInt = -1 := rfl
  have kc0 : (0 : Int32).toInt = 0 := rfl
  have kc1 : (1 : Int32).toInt = 1 := rfl
  have kc91 : (91 : Int32).toInt = 91 := rfl
  have kc93 : (93 : Int32).toInt = 93 := rfl
  have hl := lv_entry ([.ref u]) (n := 2) (Nat.le_of_ble_eq_true rfl)
  rw [lg_entry_eq]
  generalize (lg_sl ([.ref u]) ++ List.replicate (2 - (lg_sl ([.ref u])).length) Slot.unset).toArray = ls at hl ⊢
  have hl : lv_has ls 2 [(0, .ref u)] := hl
  have hKP : KP G [41, 42, 43, 13] false f f := KP.refl
  have hFK : FK [3, 4, 5] f f u := FK.refl
  obtain ⟨v_1, v_2, v_3, v_4, v_5, v_6, v_7, v_8, v_9, v_10, v_11, v_12, y_13, v_14, v_15, v_16, v_17, v_18, y_19, v_20, y_21, v_22, hr_35, b_23, b_24, b_25, b_26, b_27, b_28, b_29, b_30, b_31, b_32, b_33, b_34⟩ := wg_12 hWF Tu
  have tq_36 := mi_row hr_35 2 rfl
  have tq_37 := mi_row hr_35 3 rfl
  have bv_3 := wf_free v_3
  have tq_38 := mi_row hr_35 4 rfl
  have bv_4 := wf_free v_4
  have tq_39 := mi_row hr_35 5 rfl
  have bv_5 := wf_free v_5
  have tq_40 := mi_row hr_35 14 rfl
  have hcd := cdv_rng hG hWF Tu (by omega) (by omega)
  have hTR : TR f f G u (13 - 2 * wb) 0 0 := TR.refl (by omega) (by omega)
  refine lv_aload_n G0.1 G0.2.1 dX12_atom_0 rfl (lv_at hl 0 rfl) ?_
  refine py_calli hw (va_runV (As := []) (rest := []) G0 (c_X12_look l E G L f s.heap.size u hG hWF Tu (show 0 ≤ mi f u 3 ∧ mi f u 3 ≤ mi f u 2 by omega)) (cwV 0 G0.2.2.2.2 g_X12_atom_X12_look_146 rfl rfl rfl (by decide +kernel) ⟨(show 1 + 1 ≤ fr + 1 by omega), (show 8 + (1 + 11) + 20 ≤ lo + 60 by omega)⟩) (py_preV hw (C := RX12) (T := TX12) (N := 54) rfl hr_35) rfl rfl hl.1 rfl (lv_room (Nat.le_of_ble_eq_true rfl)) dX12_atom_1 ⟨(Nat.le_of_ble_eq_true rfl), (Nat.le_of_ble_eq_true rfl)⟩) (fun r_45 L_41 f_42 H_43 locs hp_44 hw => ?_)
  obtain ⟨en_46, en_47, en_48, hWF, kp_49, fk_50⟩ := hp_44
  have cq_51 := cdv_k hG Tu kp_49 fk_50 (by decide)
  have hFK := hFK.trans fk_50 (by decide)
  have hKP := hKP.trans kp_49 (by decide) (by decide)
  obtain ⟨v_52, hr_53⟩ := fk_3 hWF Tu fk_50 hr_35
  have tq_54 := mi_row hr_53 2 rfl
  have tq_55 := mi_row hr_53 3 rfl
  have bv_52 := wf_free v_52
  have tq_56 := mi_row hr_53 4 rfl
  have bv_4 := wf_free v_4
  have tq_57 := mi_row hr_53 5 rfl
  have bv_5 := wf_free v_5
  have tq_58 := mi_row hr_53 14 rfl
  have hTR := hTR.kp hG Tu kp_49 fk_50 (by decide) (fun q => by omega)
  have br_45 := wf_free r_45
  refine lv_istore_n (lv' := [(1, .int r_45), (0, .ref u)]) G0.1 G0.2.1 dX12_atom_4 rfl hl (by decide) rfl (fun ls hl => ?_)
  refine lv_iload_n G0.1 G0.2.1 dX12_atom_5 rfl (lv_at hl 0 rfl) ?_
  refine py_calli hw (va_runS (As := [.int r_45]) (rest := []) G0 (c_X12_isDigit l E G L_41 f_42 H_43.size r_45 hG hWF) (va_cwS 1 G0.2.2.2.2 g_X12_atom_X12_isDigit_149 rfl rfl rfl (by decide +kernel) ⟨(show 0 + 1 ≤ fr + 1 by omega), (show 8 + (1 + 11) + 0 ≤ lo + 60 by omega)⟩) (py_preS hw) rfl rfl hl.1 rfl (lv_room (Nat.le_of_ble_eq_true rfl)) dX12_atom_6 ⟨(Nat.le_of_ble_eq_true rfl), (Nat.le_of_ble_eq_true rfl)⟩) (fun r_63 L_59 f_60 H_61 locs hp_62 hw => ?_)
  obtain ⟨b_66, en_64, en_65, rfl, rfl⟩ := hp_62
  refine lv_if_eq (tgt := 24) G0.1 G0.2.1 dX12_atom_9 (by decide) (fun c_67 => ?_) (fun c_67 => ?_)
  · skip
    have tc_67 := ti_eq c_67
    clear en_64
    replace en_65 := en_65 (by omega)
    refine lv_iload_n G0.1 G0.2.1 dX12_atom_24 rfl (lv_at hl 0 rfl) ?_
    refine py_calli hw (va_runS (As := [.int r_45]) (rest := []) G0 (c_X12_letterOf l E G L_41 f_42 H_61.size r_45 hG hWF) (va_cwS 1 G0.2.2.2.2 g_X12_atom_X12_letterOf_160 rfl rfl rfl (by decide +kernel) ⟨(show 0 + 1 ≤ fr + 1 by omega), (show 8 + (1 + 11) + 0 ≤ lo + 60 by omega)⟩) (py_preS hw) rfl rfl hl.1 rfl (lv_room (Nat.le_of_ble_eq_true rfl)) dX12_atom_25 ⟨(Nat.le_of_ble_eq_true rfl), (Nat.le_of_ble_eq_true rfl)⟩) (fun r_72 L_68 f_69 H_70 locs hp_71 hw => ?_)
    obtain ⟨b_75, en_73, en_74, rfl, rfl⟩ := hp_71
    refine lv_iconst (v := (-1)) G0.1 G0.2.1 dX12_atom_28 (by decide) ?_
    refine lv_icmp_eq (tgt := 54) G0.1 G0.2.1 dX12_atom_29 (by decide) (fun c_76 => ?_) (fun c_76 => ?_)
    · skip
      have tc_76 := ti_eq c_76
      clear en_73
      replace en_74 := en_74 (by omega)
      refine lv_iload_n G0.1 G0.2.1 dX12_atom_54 rfl (lv_at hl 0 rfl) ?_
      refine lv_bipush (v := 91) G0.1 G0.2.1 dX12_atom_55 (by decide) ?_
      refine lv_icmp_ne (tgt := 85) G0.1 G0.2.1 dX12_atom_57 (by decide) (fun c_77 => ?_) (fun c_77 => ?_)
      · skip
        have tc_77 := ti_ne c_77
        refine lv_aload_n G0.1 G0.2.1 dX12_atom_85 rfl (lv_at hl 1 rfl) ?_
        refine py_callv hw (va_runV (As := []) (rest := []) G0 (c_X12_bad l E G L_41 f_42 H_70.size u hG hWF Tu (show 0 ≤ mi f_42 u 3 by omega)) (cwV 0 G0.2.2.2.2 g_X12_atom_X12_bad_143 rfl rfl rfl (by decide +kernel) ⟨(show 0 + 1 ≤ fr + 1 by omega), (show 8 + (1 + 11) + 0 ≤ lo + 60 by omega)⟩) (py_preV hw (C := RX12) (T := TX12) (N := 54) rfl hr_53) rfl rfl hl.1 rfl (lv_room (Nat.le_of_ble_eq_true rfl)) dX12_atom_86 ⟨(Nat.le_of_ble_eq_true rfl), (Nat.le_of_ble_eq_true rfl)⟩) (fun L_78 f_79 H_80 locs hp_81 hw => ?_)
        obtain ⟨en_83, en_84, hWF, kp_85, fk_86⟩ := hp_81
        have cq_87 := cdv_k hG Tu kp_85 fk_86 (by decide)
        have hFK := hFK.trans fk_86 (by decide)
        have hKP := hKP.trans kp_85 (by decide) (by decide)
        obtain ⟨v_88, hr_89⟩ := fk_4 hWF Tu fk_86 hr_53
        have tq_90 := mi_row hr_89 2 rfl
        have tq_91 := mi_row hr_89 3 rfl
        have bv_52 := wf_free v_52
        have tq_92 := mi_row hr_89 4 rfl
        have bv_88 := wf_free v_88
        have tq_93 := mi_row hr_89 5 rfl
        have bv_5 := wf_free v_5
        have tq_94 := mi_row hr_89 14 rfl
        have hTR := hTR.kp hG Tu kp_85 fk_86 (by decide) (fun q => by omega)
        exact py_vret G0 hr hlk hw ⟨(by first | omega | (intro q; omega)), (by first | omega | (intro q; omega)), (hTR.wrong (by omega)), hWF, hKP, hFK⟩ dX12_atom_89
      · skip
        have tc_77 := ti_eq c_77
        replace en_47 := en_47 (by omega)
        refine lv_aload_n G0.1 G0.2.1 dX12_atom_60 rfl (lv_at hl 1 rfl) ?_
        refine py_callv hw (va_runV (As := []) (rest := []) G0 (c_X12_opens l E G L_41 f_42 H_70.size u hG hWF Tu (show 0 ≤ mi f_42 u 3 ∧ mi f_42 u 3 ≤ 1000 ∧ 0 ≤ mi f_42 u 5 ∧ mi f_42 u 5 ≤ 6 by omega)) (cwV 0 G0.2.2.2.2 g_X12_atom_X12_opens_164 rfl rfl rfl (by decide +kernel) ⟨(show 1 + 1 ≤ fr + 1 by omega), (show 8 + (1 + 11) + 20 ≤ lo + 60 by omega)⟩) (py_preV hw (C := RX12) (T := TX12) (N := 54) rfl hr_53) rfl rfl hl.1 rfl (lv_room (Nat.le_of_ble_eq_true rfl)) dX12_atom_61 ⟨(Nat.le_of_ble_eq_true rfl), (Nat.le_of_ble_eq_true rfl)⟩) (fun L_95 f_96 H_97 locs hp_98 hw => ?_)
        obtain ⟨en_100, en_101, en_102, en_103, hWF, kp_104, fk_105⟩ := hp_98
        have cq_106 := cdv_k hG Tu kp_104 fk_105 (by decide)
        have hFK := hFK.trans fk_105 (by decide)
        have hKP := hKP.trans kp_104 (by decide) (by decide)
        obtain ⟨v_107, v_108, v_109, hr_110⟩ := fk_3_4_5 hWF Tu fk_105 hr_53
        have tq_111 := mi_row hr_110 2 rfl
        have tq_112 := mi_row hr_110 3 rfl
        have bv_107 := wf_free v_107
        have tq_113 := mi_row hr_110 4 rfl
        have bv_108 := wf_free v_108
        have tq_114 := mi_row hr_110 5 rfl
        have bv_109 := wf_free v_109
        have tq_115 := mi_row hr_110 14 rfl
        have hTR := hTR.kp hG Tu kp_104 fk_105 (by decide) (fun q => by omega)
        refine lv_aload_n G0.1 G0.2.1 dX12_atom_64 rfl (lv_at hl 1 rfl) ?_
        refine py_get (C := RX12) (T := TX12) (N := 54) (k := 4) (v := .int v_108) G0 hw in_X12_atom_X12 rfl hr_110 (by decide) (by decide +kernel) rfl dX12_atom_65 ?_
        refine lv_iconst (v := (-1)) G0.1 G0.2.1 dX12_atom_68 (by decide) ?_
        refine lv_icmp_ne (tgt := 89) G0.1 G0.2.1 dX12_atom_69 (by decide) (fun c_116 => ?_) (fun c_116 => ?_)
        · skip
          have tc_116 := ti_ne c_116
          exact py_vret G0 hr hlk hw ⟨(by first | omega | (intro q; omega)), (by first | omega | (intro q; omega)), (hTR.wrong (by omega)), hWF, hKP, hFK⟩ dX12_atom_89
        · skip
          have tc_116 := ti_eq c_116
          refine lv_aload_n G0.1 G0.2.1 dX12_atom_72 rfl (lv_at hl 1 rfl) ?_
          refine py_callv hw (va_runV (As := []) (rest := []) G0 (ih_sum L_95 f_96 H_97.size u hWF Tu (show mi f_96 u 4 = -1 ∧ (wb + 1) ≤ mi f_96 u 5 ∧ mi f_96 u 5 ≤ 6 ∧ 0 ≤ mi f_96 u 3 ∧ mi f_96 u 3 ≤ mi f_96 u 2 ∧ cdv f_96 G u ≤ mi f_96 u 3 by omega)) (cwV 0 G0.2.2.2.2 g_X12_atom_X12_sum_167 rfl rfl rfl (by decide +kernel) ⟨(show f_sum + 1 ≤ fr + 1 by omega), (show 8 + (2 + 11) + l_sum ≤ lo + 60 by omega)⟩) (py_preV hw (C := RX12) (T := TX12) (N := 54) rfl hr_110) rfl rfl hl.1 rfl (lv_room (Nat.le_of_ble_eq_true rfl)) dX12_atom_73 ⟨(Nat.le_of_ble_eq_true rfl), (Nat.le_of_ble_eq_true rfl)⟩) (fun L_117 f_118 H_119 locs hp_120 hw => ?_)
          obtain ⟨en_122, en_123, en_124, hWF, kp_125, fk_126⟩ := hp_120
          have hFK := hFK.trans fk_126 (by decide)
          have hKP := hKP.trans kp_125 (by decide) (by decide)
          obtain ⟨v_127, v_128, v_129, hr_130⟩ := fk_3_4_5 hWF Tu fk_126 hr_110
          have tq_131 := mi_row hr_130 2 rfl
          have tq_132 := mi_row hr_130 3 rfl
          have bv_127 := wf_free v_127
          have tq_133 := mi_row hr_130 4 rfl
          have bv_128 := wf_free v_128
          have tq_134 := mi_row hr_130 5 rfl
          have bv_129 := wf_free v_129
          have tq_135 := mi_row hr_130 14 rfl
          have hTR : TR f f_118 G u (13 - 2 * wb) 0 1 := hTR.trans (en_124.lift (b := 0) (by omega) (by omega) (by omega) (by omega)) (fun q => by omega)
          refine lv_aload_n G0.1 G0.2.1 dX12_atom_76 rfl (lv_at hl 1 rfl) ?_
          refine lv_bipush (v := 93) G0.1 G0.2.1 dX12_atom_77 (by decide) ?_
          refine py_callv hw (va_runV (As := [.int 93]) (rest := []) G0 (c_X12_closes l E G L_117 f_118 H_119.size u 93 hG hWF Tu (show 0 ≤ mi f_118 u 3 ∧ mi f_118 u 3 ≤ 1000 ∧ (93 : Int32).toInt ≠ -1 by omega) (show mi f_118 u 4 = -1 → mi f_118 u 3 ≤ mi f_118 u 2 by omega)) (cwV 1 G0.2.2.2.2 g_X12_atom_X12_closes_170 rfl rfl rfl (by decide +kernel) ⟨(show 2 + 1 ≤ fr + 1 by omega), (show 8 + (2 + 11) + 40 ≤ lo + 60 by omega)⟩) (py_preV hw (C := RX12) (T := TX12) (N := 54) rfl hr_130) rfl rfl hl.1 rfl (lv_room (Nat.le_of_ble_eq_true rfl)) dX12_atom_79 ⟨(Nat.le_of_ble_eq_true rfl), (Nat.le_of_ble_eq_true rfl)⟩) (fun L_136 f_137 H_138 locs hp_139 hw => ?_)
          obtain ⟨en_141, en_142, en_143, en_144, en_145, hWF, kp_146, fk_147⟩ := hp_139
          have cq_148 := cdv_k hG Tu kp_146 fk_147 (by decide)
          have hFK := hFK.trans fk_147 (by decide)
          have hKP := hKP.trans kp_146 (by decide) (by decide)
          obtain ⟨v_149, v_150, v_151, hr_152⟩ := fk_3_4_5 hWF Tu fk_147 hr_130
          have tq_153 := mi_row hr_152 2 rfl
          have tq_154 := mi_row hr_152 3 rfl
          have bv_149 := wf_free v_149
          have tq_155 := mi_row hr_152 4 rfl
          have bv_150 := wf_free v_150
          have tq_156 := mi_row hr_152 5 rfl
          have bv_151 := wf_free v_151
          have tq_157 := mi_row hr_152 14 rfl
          have hTR := hTR.kp hG Tu kp_146 fk_147 (by decide) (fun q => by omega)
          refine lv_goto (tgt := 89) G0.1 G0.2.1 dX12_atom_82 (by decide) ?_
          exact py_vret G0 hr hlk hw ⟨(by first | omega | (intro q; omega)), (by first | omega | (intro q; omega)), hTR, hWF, hKP, hFK⟩ dX12_atom_89
    · skip
      have tc_76 := ti_ne c_76
      replace en_73 := en_73 (by omega)
      clear en_74
      refine lv_aload_n G0.1 G0.2.1 dX12_atom_32 rfl (lv_at hl 1 rfl) ?_
      refine lv_dup G0.1 G0.2.1 dX12_atom_33 rfl ?_
      refine py_get (C := RX12) (T := TX12) (N := 54) (k := 3) (v := .int v_52) G0 hw in_X12_atom_X12 rfl hr_53 (by decide) (by decide +kernel) rfl dX12_atom_34 ?_
      refine lv_iconst (v := 1) G0.1 G0.2.1 dX12_atom_37 (by decide) ?_
      refine lv_iadd G0.1 G0.2.1 dX12_atom_38 ?_
      refine lv_topi (fun x_158 ex_158 => ?_)
      first | have tx_158 := ti_add ex_158 (by omega -splitDisjunctions) (by omega -splitDisjunctions) | skip
      refine py_put (C := RX12) (T := TX12) (N := 54) (k := 3) (v := .int x_158) (fs' := [.int v_1, .ref (G.2 u 1), .int v_2, .int x_158, .int v_4, .int v_5, .ref (G.2 u 6), .ref (G.2 u 7), .ref (G.2 u 8), .ref (G.2 u 9), .ref (G.2 u 10), .ref (G.2 u 11), .ref (G.2 u 12), .int v_6, .int v_7, .ref (G.2 u 15), .ref (G.2 u 16), .ref (G.2 u 17), .ref (G.2 u 18), .int v_8, .int v_9, .ref (G.2 u 21), .ref (G.2 u 22), .ref (G.2 u 23), .int v_10, .int v_11, .ref (G.2 u 26), .ref (G.2 u 27), .ref (G.2 u 28), .int v_12, .long y_13, .int v_14, .int v_15, .int v_16, .int v_17, .ref (G.2 u 35), .ref (G.2 u 36), .ref (G.2 u 37), .ref (G.2 u 38), .ref (G.2 u 39), .ref (G.2 u 40), .ref (G.2 u 41), .ref (G.2 u 42), .int v_18, .ref (G.2 u 44), .ref (G.2 u 45), .ref (G.2 u 46), .ref (G.2 u 47), .long y_19, .ref (G.2 u 49), .ref (G.2 u 50), .int v_20, .long y_21, .int v_22]) (ty0 := tyX12) G0 hw tyX12_ok nmX12 in_X12_atom_X12 rfl hr_53 (by decide) (by decide +kernel) rfl rfl rfl rfl (Nat.le_of_ble_eq_true rfl) rfl dX12_atom_39 (fun f_159 H_160 locs h_161 x_162 hw => ?_)
      have hFK := hFK.put hr_53 h_161 3 (by decide) rfl
      have cq_163 := cdv_own (f1 := f_42) (f2 := f_159) hG hWF Tu x_162 (by have z1 := mi_row hr_53 14 rfl; have z2 := mi_row h_161 14 rfl; omega)
      have hTR := hTR.own hG hWF Tu x_162 (by have z1 := mi_row hr_53 14 rfl; have z2 := mi_row h_161 14 rfl; omega) (by intro q; have z1 := mi_row hr_53 4 rfl; have z2 := mi_row h_161 4 rfl; omega)
      have hKP := hKP.upd hWF x_162 Tu (Or.inl (by decide))
      have hWF := wf_upd hWF h_161 x_162 (by rw [Tu]; exact ⟨v_1, v_2, x_158, v_4, v_5, v_6, v_7, v_8, v_9, v_10, v_11, v_12, y_13, v_14, v_15, v_16, v_17, v_18, y_19, v_20, y_21, v_22, rfl, ⟨by omega, by omega⟩, ⟨by omega, by omega⟩, ⟨by omega, by omega⟩, ⟨by omega, by omega⟩, ⟨by omega, by omega⟩, ⟨by omega, by omega⟩, ⟨by omega, by omega⟩, ⟨by omega, by omega⟩, ⟨by omega, by omega⟩, ⟨by omega, by omega⟩, ⟨by omega, by omega⟩, ⟨by omega, by omega⟩⟩)
      have tq_164 := mi_row h_161 2 rfl
      have tq_165 := mi_row h_161 3 rfl
      have bx_158 := wf_free x_158
      have tq_166 := mi_row h_161 4 rfl
      have bv_4 := wf_free v_4
      have tq_167 := mi_row h_161 5 rfl
      have bv_5 := wf_free v_5
      have tq_168 := mi_row h_161 14 rfl
      refine lv_aload_n G0.1 G0.2.1 dX12_atom_42 rfl (lv_at hl 1 rfl) ?_
      refine lv_iconst (v := 1) G0.1 G0.2.1 dX12_atom_43 (by decide) ?_
      refine lv_iload_n G0.1 G0.2.1 dX12_atom_44 rfl (lv_at hl 0 rfl) ?_
      refine py_calli hw (va_runS (As := [.int r_45]) (rest := [.int 1, .ref u]) G0 (c_X12_letterOf l E G L_41 f_159 H_160.size r_45 hG hWF) (va_cwS 1 G0.2.2.2.2 g_X12_atom_X12_letterOf_160 rfl rfl rfl (by decide +kernel) ⟨(show 0 + 1 ≤ fr + 1 by omega), (show 8 + (1 + 11) + 0 ≤ lo + 60 by omega)⟩) (py_preS hw) rfl rfl hl.1 rfl (lv_room (Nat.le_of_ble_eq_true rfl)) dX12_atom_45 ⟨(Nat.le_of_ble_eq_true rfl), (Nat.le_of_ble_eq_true rfl)⟩) (fun r_173 L_169 f_170 H_171 locs hp_172 hw => ?_)
      obtain ⟨b_176, en_174, en_175, rfl, rfl⟩ := hp_172
      refine py_callv hw (va_runV (As := [.int 1, .int r_173]) (rest := []) G0 (c_X12_put l E G L_41 f_159 H_171.size u 1 r_173 hG hWF Tu (show cdv f_159 G u ≤ 339 by omega)) (cwV 2 G0.2.2.2.2 g_X12_atom_X12_put_156 rfl rfl rfl (by decide +kernel) ⟨(show 0 + 1 ≤ fr + 1 by omega), (show 8 + (3 + 11) + 0 ≤ lo + 60 by omega)⟩) (py_preV hw (C := RX12) (T := TX12) (N := 54) rfl h_161) rfl rfl hl.1 rfl (lv_room (Nat.le_of_ble_eq_true rfl)) dX12_atom_48 ⟨(Nat.le_of_ble_eq_true rfl), (Nat.le_of_ble_eq_true rfl)⟩) (fun L_177 f_178 H_179 locs hp_180 hw => ?_)
      obtain ⟨en_182, en_183, hWF, kp_184, fk_185⟩ := hp_180
      have en_182 : PT f_159 f_178 G u (1 : Int32) r_173 := en_182
      have hFK := hFK.trans fk_185 (by decide)
      have hKP := hKP.trans kp_184 (by decide) (by decide)
      have h_161 := kp_at kp_184 hWF Tu (by decide) (by decide) (by decide) h_161
      have tq_186 := mi_row h_161 2 rfl
      have tq_187 := mi_row h_161 3 rfl
      have bx_158 := wf_free x_158
      have tq_188 := mi_row h_161 4 rfl
      have bv_4 := wf_free v_4
      have tq_189 := mi_row h_161 5 rfl
      have bv_5 := wf_free v_5
      have tq_190 := mi_row h_161 14 rfl
      have hTR : TR f f_178 G u (13 - 2 * wb) 0 1 := hTR.trans (en_182.tr (by omega)) (fun q => by omega)
      refine lv_goto (tgt := 89) G0.1 G0.2.1 dX12_atom_51 (by decide) ?_
      exact py_vret G0 hr hlk hw ⟨(by first | omega | (intro q; omega)), (by first | omega | (intro q; omega)), hTR, hWF, hKP, hFK⟩ dX12_atom_89
  · skip
    have tc_67 := ti_ne c_67
    replace en_64 := en_64 (by omega)
    clear en_65
    refine lv_aload_n G0.1 G0.2.1 dX12_atom_12 rfl (lv_at hl 1 rfl) ?_
    refine lv_iconst (v := 0) G0.1 G0.2.1 dX12_atom_13 (by decide) ?_
    refine lv_aload_n G0.1 G0.2.1 dX12_atom_14 rfl (lv_at hl 1 rfl) ?_
    refine py_calli hw (va_runV (As := []) (rest := [.int 0, .ref u]) G0 (c_X12_plainNumber l E G L_41 f_42 H_61.size u hG hWF Tu (show 0 ≤ mi f_42 u 3 ∧ mi f_42 u 3 ≤ mi f_42 u 2 by omega)) (cwV 0 G0.2.2.2.2 g_X12_atom_X12_plainNumber_153 rfl rfl rfl (by decide +kernel) ⟨(show 1 + 1 ≤ fr + 1 by omega), (show 8 + (3 + 11) + 20 ≤ lo + 60 by omega)⟩) (py_preV hw (C := RX12) (T := TX12) (N := 54) rfl hr_53) rfl rfl hl.1 rfl (lv_room (Nat.le_of_ble_eq_true rfl)) dX12_atom_15 ⟨(Nat.le_of_ble_eq_true rfl), (Nat.le_of_ble_eq_true rfl)⟩) (fun r_195 L_191 f_192 H_193 locs hp_194 hw => ?_)
    obtain ⟨en_196, en_197, en_198, hWF, kp_199, fk_200⟩ := hp_194
    have cq_201 := cdv_k hG Tu kp_199 fk_200 (by decide)
    have hFK := hFK.trans fk_200 (by decide)
    have hKP := hKP.trans kp_199 (by decide) (by decide)
    obtain ⟨v_202, v_203, hr_204⟩ := fk_3_4 hWF Tu fk_200 hr_53
    have tq_205 := mi_row hr_204 2 rfl
    have tq_206 := mi_row hr_204 3 rfl
    have bv_202 := wf_free v_202
    have tq_207 := mi_row hr_204 4 rfl
    have bv_203 := wf_free v_203
    have tq_208 := mi_row hr_204 5 rfl
    have bv_5 := wf_free v_5
    have tq_209 := mi_row hr_204 14 rfl
    have hTR := hTR.kp hG Tu kp_199 fk_200 (by decide) (fun q => by omega)
    have br_195 := wf_free r_195
    refine py_callv hw (va_runV (As := [.int 0, .int r_195]) (rest := []) G0 (c_X12_put l E G L_191 f_192 H_193.size u 0 r_195 hG hWF Tu (show cdv f_192 G u ≤ 339 by omega)) (cwV 2 G0.2.2.2.2 g_X12_atom_X12_put_156 rfl rfl rfl (by decide +kernel) ⟨(show 0 + 1 ≤ fr + 1 by omega), (show 8 + (3 + 11) + 0 ≤ lo + 60 by omega)⟩) (py_preV hw (C := RX12) (T := TX12) (N := 54) rfl hr_204) rfl rfl hl.1 rfl (lv_room (Nat.le_of_ble_eq_true rfl)) dX12_atom_18 ⟨(Nat.le_of_ble_eq_true rfl), (Nat.le_of_ble_eq_true rfl)⟩) (fun L_210 f_211 H_212 locs hp_213 hw => ?_)
    obtain ⟨en_215, en_216, hWF, kp_217, fk_218⟩ := hp_213
    have en_215 : PT f_192 f_211 G u (0 : Int32) r_195 := en_215
    have hFK := hFK.trans fk_218 (by decide)
    have hKP := hKP.trans kp_217 (by decide) (by decide)
    have hr_204 := kp_at kp_217 hWF Tu (by decide) (by decide) (by decide) hr_204
    have tq_219 := mi_row hr_204 2 rfl
    have tq_220 := mi_row hr_204 3 rfl
    have bv_202 := wf_free v_202
    have tq_221 := mi_row hr_204 4 rfl
    have bv_203 := wf_free v_203
    have tq_222 := mi_row hr_204 5 rfl
    have bv_5 := wf_free v_5
    have tq_223 := mi_row hr_204 14 rfl
    have hTR : TR f f_211 G u (13 - 2 * wb) 0 1 := hTR.trans (en_215.tr (by omega)) (fun q => by omega)
    refine lv_goto (tgt := 89) G0.1 G0.2.1 dX12_atom_21 (by decide) ?_
    exact py_vret G0 hr hlk hw ⟨(by first | omega | (intro q; omega)), (by first | omega | (intro q; omega)), hTR, hWF, hKP, hFK⟩ dX12_atom_89

set_option maxHeartbeats 4000000 in
set_option maxRecDepth 100000 in
theorem q_term (l : Launch) (E : py_E) (G : wf_G) (hG : GT G) (wb : Int) (hwb : 0 ≤ wb) (fr lo : Nat) (hfr : 10 ≤ fr) (hlo : 300 ≤ lo) (f_atom l_atom : Nat) (x_atom : f_atom ≤ fr) (z_atom : l_atom ≤ lo) (ih_atom : Q_atom l E G wb f_atom l_atom) : Q_term l E G wb (fr + 1) (lo + 60) := by
  intro L f sz u hWF Tu hp0
  refine Met.ofW (cc := cX12_term) (maxL := 2) (ret := none) (by decide) rfl ?_
  intro p e s m args below meth c s₁ B hml hv
  obtain ⟨rfl, rfl, hw⟩ := py_start hv
  have G0 : CallFix p m c cX12_term 2 s _ w_X12_term RX12 := ⟨B.exec, B.bytes, hml, findClass_of_methodNamed B.named, atoms_spec (ws := w_X12_term) B.pre⟩
  have hr := B.returns
  have hlk := B.notSynchronized
  have kcm1 : (-1 : Int32).toInt = -1 := rfl
  have kc0 : (0 : Int32).toInt = 0 := rfl
  have kc1 : (1 : Int32).toInt = 1 := rfl
  have kc4 : (4 : Int32).toInt = 4 := rfl
  have kc5 : (5 : Int32).toInt = 5 := rfl
  have kc42 : (42 : Int32).toInt = 42 := rfl
  have kc47 : (47 : Int32).toInt = 47 := rfl
  have hl := lv_entry ([.ref u]) (n := 2) (Nat.le_of_ble_eq_true rfl)
  rw [lg_entry_eq]
  generalize (lg_sl ([.ref u]) ++ List.replicate (2 - (lg_sl ([.ref u])).length) Slot.unset).toArray = ls at hl ⊢
  have hl : lv_has ls 2 [(0, .ref u)] := hl
  have hKP : KP G [41, 42, 43, 13] false f f := KP.refl
  have hFK : FK [3, 4, 5] f f u := FK.refl
  obtain ⟨v_1, v_2, v_3, v_4, v_5, v_6, v_7, v_8, v_9, v_10, v_11, v_12, y_13, v_14, v_15, v_16, v_17, v_18, y_19, v_20, y_21, v_22, hr_35, b_23, b_24, b_25, b_26, b_27, b_28, b_29, b_30, b_31, b_32, b_33, b_34⟩ := wg_12 hWF Tu
  have tq_36 := mi_row hr_35 2 rfl
  have tq_37 := mi_row hr_35 3 rfl
  have bv_3 := wf_free v_3
  have tq_38 := mi_row hr_35 4 rfl
  have bv_4 := wf_free v_4
  have tq_39 := mi_row hr_35 5 rfl
  have bv_5 := wf_free v_5
  have tq_40 := mi_row hr_35 14 rfl
  have hcd := cdv_rng hG hWF Tu (by omega) (by omega)
  have hTR : TR f f G u (14 - 2 * wb) 0 0 := TR.refl (by omega) (by omega)
  refine lv_aload_n G0.1 G0.2.1 dX12_term_0 rfl (lv_at hl 0 rfl) ?_
  refine py_callv hw (va_runV (As := []) (rest := []) G0 (ih_atom L f s.heap.size u hWF Tu (show mi f u 4 = -1 ∧ wb ≤ mi f u 5 ∧ mi f u 5 ≤ 6 ∧ 0 ≤ mi f u 3 ∧ mi f u 3 ≤ mi f u 2 ∧ cdv f G u ≤ mi f u 3 by omega)) (cwV 0 G0.2.2.2.2 g_X12_term_X12_atom_174 rfl rfl rfl (by decide +kernel) ⟨(show f_atom + 1 ≤ fr + 1 by omega), (show 8 + (2 + 11) + l_atom ≤ lo + 60 by omega)⟩) (py_preV hw (C := RX12) (T := TX12) (N := 54) rfl hr_35) rfl rfl hl.1 rfl (lv_room (Nat.le_of_ble_eq_true rfl)) dX12_term_1 ⟨(Nat.le_of_ble_eq_true rfl), (Nat.le_of_ble_eq_true rfl)⟩) (fun L_41 f_42 H_43 locs hp_44 hw => ?_)
  obtain ⟨en_46, en_47, en_48, hWF, kp_49, fk_50⟩ := hp_44
  have hFK := hFK.trans fk_50 (by decide)
  have hKP := hKP.trans kp_49 (by decide) (by decide)
  obtain ⟨v_51, v_52, v_53, hr_54⟩ := fk_3_4_5 hWF Tu fk_50 hr_35
  have tq_55 := mi_row hr_54 2 rfl
  have tq_56 := mi_row hr_54 3 rfl
  have bv_51 := wf_free v_51
  have tq_57 := mi_row hr_54 4 rfl
  have bv_52 := wf_free v_52
  have tq_58 := mi_row hr_54 5 rfl
  have bv_53 := wf_free v_53
  have tq_59 := mi_row hr_54 14 rfl
  have hTR : TR f f_42 G u (14 - 2 * wb) 0 1 := hTR.trans (en_48.lift (b := 0) (by omega) (by omega) (by omega) (by omega)) (fun q => by omega)
  refine lv_aload_n G0.1 G0.2.1 dX12_term_4 rfl (lv_at hl 0 rfl) ?_
  refine py_get (C := RX12) (T := TX12) (N := 54) (k := 4) (v := .int v_52) G0 hw in_X12_term_X12 rfl hr_54 (by decide) (by decide +kernel) rfl dX12_term_5 ?_
  refine lv_iconst (v := (-1)) G0.1 G0.2.1 dX12_term_8 (by decide) ?_
  refine lv_icmp_ne (tgt := 19) G0.1 G0.2.1 dX12_term_9 (by decide) (fun c_60 => ?_) (fun c_60 => ?_)
  · skip
    have tc_60 := ti_ne c_60
    clear en_47
    refine lv_iconst (v := (-1)) G0.1 G0.2.1 dX12_term_19 (by decide) ?_
    refine lv_istore_n (lv' := [(1, .int (-1)), (0, .ref u)]) G0.1 G0.2.1 dX12_term_20 rfl hl (by decide) rfl (fun ls hl => ?_)
    have lo_21 : ∀ n_21 : Nat, ∀ (v_61 : Int32) (L_j21 : List Nat) (f_j21 : py_F) (H_j21 : Heap) (locs : List Loc) (ls : Array Slot), (mi f u 2 - mi f_j21 u 3).toNat = n_21 → WF E G L_j21 f_j21 → KP G [41, 42, 43, 13] false f f_j21 → FK [3, 4, 5] f f_j21 u → TR f f_j21 G u (14 - 2 * wb) 0 1 → (mi f u 3 ≤ mi f_j21 u 3 ∧ cdv f_j21 G u - cdv f G u ≤ mi f_j21 u 3 - mi f u 3 ∧ mi f_j21 u 3 ≤ 167 - mi f u 5) → (mi f_j21 u 4 = -1 → mi f_j21 u 5 = mi f u 5 ∧ mi f_j21 u 3 ≤ mi f u 2) → (v_61.toInt ≠ -1 → mi f_j21 u 4 = -1 ∧ mi f_j21 u 3 < mi f u 2) → (mi f_j21 u 2 = mi f u 2) → py_W E (va_A (va_pl L f) s.heap.size) s L_j21 f_j21 H_j21 locs → lv_has ls 2 [(1, .int v_61), (0, .ref u)] → W p l e (headSpec w_X12_term ({ frames := fr + 1, cells := 0, slots := 0, locals := lo + 60 })).room s m ([.ref u] : List Value).toArray below meth c H_j21 locs 0 0 (MQ below (py_Qv E L f s.heap.size (fun L1 f1 => (mi f u 3 ≤ mi f1 u 3 ∧ cdv f1 G u - cdv f G u ≤ mi f1 u 3 - mi f u 3 ∧ mi f1 u 3 ≤ 167 - mi f u 5) ∧ (mi f1 u 4 = -1 → mi f1 u 5 = mi f u 5 ∧ mi f1 u 3 ≤ mi f u 2) ∧ (TR f f1 G u (14 - 2 * wb) 0 1) ∧ WF E G L1 f1 ∧ KP G [41, 42, 43, 13] false f f1 ∧ FK [3, 4, 5] f f1 u)) ([.ref u] : List Value).toArray s 0 0 (va_A (va_pl L f) s.heap.size)) (F0 m 21 ls []) := by
      intro n_21
      induction n_21 using Nat.strongRecOn with
      | _ n_21 ih_21 =>
        intro v_61 L_j21 f_j21 H_j21 locs ls hn_21 hWF hKP hFK hTR iv0 iv1 iv2 iv3 hw hl
        refine lv_iload_n G0.1 G0.2.1 dX12_term_21 rfl (lv_at hl 0 rfl) ?_
        refine lv_bipush (v := 42) G0.1 G0.2.1 dX12_term_22 (by decide) ?_
        refine lv_icmp_eq (tgt := 33) G0.1 G0.2.1 dX12_term_24 (by decide) (fun c_62 => ?_) (fun c_62 => ?_)
        · skip
          have tc_62 := ti_eq c_62
          replace iv2 := iv2 (by omega)
          refine lv_aload_n G0.1 G0.2.1 dX12_term_33 rfl (lv_at hl 1 rfl) ?_
          refine lv_dup G0.1 G0.2.1 dX12_term_34 rfl ?_
          obtain ⟨v_63, v_64, v_65, v_66, v_67, v_68, v_69, v_70, v_71, v_72, v_73, v_74, y_75, v_76, v_77, v_78, v_79, v_80, y_81, v_82, y_83, v_84, hr_97, b_85, b_86, b_87, b_88, b_89, b_90, b_91, b_92, b_93, b_94, b_95, b_96⟩ := wg_12 hWF Tu
          have tq_98 := mi_row hr_97 2 rfl
          have tq_99 := mi_row hr_97 3 rfl
          have bv_65 := wf_free v_65
          have tq_100 := mi_row hr_97 4 rfl
          have bv_66 := wf_free v_66
          have tq_101 := mi_row hr_97 5 rfl
          have bv_67 := wf_free v_67
          have tq_102 := mi_row hr_97 14 rfl
          refine py_get (C := RX12) (T := TX12) (N := 54) (k := 3) (v := .int v_65) G0 hw in_X12_term_X12 rfl hr_97 (by decide) (by decide +kernel) rfl dX12_term_35 ?_
          refine lv_iconst (v := 1) G0.1 G0.2.1 dX12_term_38 (by decide) ?_
          refine lv_iadd G0.1 G0.2.1 dX12_term_39 ?_
          refine lv_topi (fun x_103 ex_103 => ?_)
          first | have tx_103 := ti_add ex_103 (by omega -splitDisjunctions) (by omega -splitDisjunctions) | skip
          refine py_put (C := RX12) (T := TX12) (N := 54) (k := 3) (v := .int x_103) (fs' := [.int v_63, .ref (G.2 u 1), .int v_64, .int x_103, .int v_66, .int v_67, .ref (G.2 u 6), .ref (G.2 u 7), .ref (G.2 u 8), .ref (G.2 u 9), .ref (G.2 u 10), .ref (G.2 u 11), .ref (G.2 u 12), .int v_68, .int v_69, .ref (G.2 u 15), .ref (G.2 u 16), .ref (G.2 u 17), .ref (G.2 u 18), .int v_70, .int v_71, .ref (G.2 u 21), .ref (G.2 u 22), .ref (G.2 u 23), .int v_72, .int v_73, .ref (G.2 u 26), .ref (G.2 u 27), .ref (G.2 u 28), .int v_74, .long y_75, .int v_76, .int v_77, .int v_78, .int v_79, .ref (G.2 u 35), .ref (G.2 u 36), .ref (G.2 u 37), .ref (G.2 u 38), .ref (G.2 u 39), .ref (G.2 u 40), .ref (G.2 u 41), .ref (G.2 u 42), .int v_80, .ref (G.2 u 44), .ref (G.2 u 45), .ref (G.2 u 46), .ref (G.2 u 47), .long y_81, .ref (G.2 u 49), .ref (G.2 u 50), .int v_82, .long y_83, .int v_84]) (ty0 := tyX12) G0 hw tyX12_ok nmX12 in_X12_term_X12 rfl hr_97 (by decide) (by decide +kernel) rfl rfl rfl rfl (Nat.le_of_ble_eq_true rfl) rfl dX12_term_40 (fun f_104 H_105 locs h_106 x_107 hw => ?_)
          have hFK := hFK.put hr_97 h_106 3 (by decide) rfl
          have cq_108 := cdv_own (f1 := f_j21) (f2 := f_104) hG hWF Tu x_107 (by have z1 := mi_row hr_97 14 rfl; have z2 := mi_row h_106 14 rfl; omega)
          have hTR := hTR.own hG hWF Tu x_107 (by have z1 := mi_row hr_97 14 rfl; have z2 := mi_row h_106 14 rfl; omega) (by intro q; have z1 := mi_row hr_97 4 rfl; have z2 := mi_row h_106 4 rfl; omega)
          have hKP := hKP.upd hWF x_107 Tu (Or.inl (by decide))
          have hWF := wf_upd hWF h_106 x_107 (by rw [Tu]; exact ⟨v_63, v_64, x_103, v_66, v_67, v_68, v_69, v_70, v_71, v_72, v_73, v_74, y_75, v_76, v_77, v_78, v_79, v_80, y_81, v_82, y_83, v_84, rfl, ⟨by omega, by omega⟩, ⟨by omega, by omega⟩, ⟨by omega, by omega⟩, ⟨by omega, by omega⟩, ⟨by omega, by omega⟩, ⟨by omega, by omega⟩, ⟨by omega, by omega⟩, ⟨by omega, by omega⟩, ⟨by omega, by omega⟩, ⟨by omega, by omega⟩, ⟨by omega, by omega⟩, ⟨by omega, by omega⟩⟩)
          have tq_109 := mi_row h_106 2 rfl
          have tq_110 := mi_row h_106 3 rfl
          have bx_103 := wf_free x_103
          have tq_111 := mi_row h_106 4 rfl
          have bv_66 := wf_free v_66
          have tq_112 := mi_row h_106 5 rfl
          have bv_67 := wf_free v_67
          have tq_113 := mi_row h_106 14 rfl
          refine lv_aload_n G0.1 G0.2.1 dX12_term_43 rfl (lv_at hl 1 rfl) ?_
          refine py_callv hw (va_runV (As := []) (rest := []) G0 (ih_atom L_j21 f_104 H_105.size u hWF Tu (show mi f_104 u 4 = -1 ∧ wb ≤ mi f_104 u 5 ∧ mi f_104 u 5 ≤ 6 ∧ 0 ≤ mi f_104 u 3 ∧ mi f_104 u 3 ≤ mi f_104 u 2 ∧ cdv f_104 G u ≤ mi f_104 u 3 by omega)) (cwV 0 G0.2.2.2.2 g_X12_term_X12_atom_174 rfl rfl rfl (by decide +kernel) ⟨(show f_atom + 1 ≤ fr + 1 by omega), (show 8 + (2 + 11) + l_atom ≤ lo + 60 by omega)⟩) (py_preV hw (C := RX12) (T := TX12) (N := 54) rfl h_106) rfl rfl hl.1 rfl (lv_room (Nat.le_of_ble_eq_true rfl)) dX12_term_44 ⟨(Nat.le_of_ble_eq_true rfl), (Nat.le_of_ble_eq_true rfl)⟩) (fun L_114 f_115 H_116 locs hp_117 hw => ?_)
          obtain ⟨en_119, en_120, en_121, hWF, kp_122, fk_123⟩ := hp_117
          have hFK := hFK.trans fk_123 (by decide)
          have hKP := hKP.trans kp_122 (by decide) (by decide)
          obtain ⟨v_124, v_125, v_126, hr_127⟩ := fk_3_4_5 hWF Tu fk_123 h_106
          have tq_128 := mi_row hr_127 2 rfl
          have tq_129 := mi_row hr_127 3 rfl
          have bv_124 := wf_free v_124
          have tq_130 := mi_row hr_127 4 rfl
          have bv_125 := wf_free v_125
          have tq_131 := mi_row hr_127 5 rfl
          have bv_126 := wf_free v_126
          have tq_132 := mi_row hr_127 14 rfl
          have hTR : TR f f_115 G u (14 - 2 * wb) 0 2 := hTR.trans (en_121.lift (b := 1) (by omega) (by omega) (by omega) (by omega)) (fun q => by omega)
          refine lv_aload_n G0.1 G0.2.1 dX12_term_47 rfl (lv_at hl 1 rfl) ?_
          refine lv_iload_n G0.1 G0.2.1 dX12_term_48 rfl (lv_at hl 0 rfl) ?_
          refine lv_bipush (v := 42) G0.1 G0.2.1 dX12_term_49 (by decide) ?_
          have jn_59 : ∀ (v_133 : Int32) (H_j59 : Heap) (locs : List Loc) (ls : Array Slot), (4 ≤ v_133.toInt ∧ v_133.toInt ≤ 5) → py_W E (va_A (va_pl L f) s.heap.size) s L_114 f_115 H_j59 locs → lv_has ls 2 [(1, .int v_61), (0, .ref u)] → W p l e (headSpec w_X12_term ({ frames := fr + 1, cells := 0, slots := 0, locals := lo + 60 })).room s m ([.ref u] : List Value).toArray below meth c H_j59 locs 0 0 (MQ below (py_Qv E L f s.heap.size (fun L1 f1 => (mi f u 3 ≤ mi f1 u 3 ∧ cdv f1 G u - cdv f G u ≤ mi f1 u 3 - mi f u 3 ∧ mi f1 u 3 ≤ 167 - mi f u 5) ∧ (mi f1 u 4 = -1 → mi f1 u 5 = mi f u 5 ∧ mi f1 u 3 ≤ mi f u 2) ∧ (TR f f1 G u (14 - 2 * wb) 0 1) ∧ WF E G L1 f1 ∧ KP G [41, 42, 43, 13] false f f1 ∧ FK [3, 4, 5] f f1 u)) ([.ref u] : List Value).toArray s 0 0 (va_A (va_pl L f) s.heap.size)) (F0 m 59 ls [.int v_133, .ref u]) := by
            intro v_133 H_j59 locs ls bv_133 hw hl
            refine lv_iconst (v := 0) G0.1 G0.2.1 dX12_term_59 (by decide) ?_
            refine py_callv hw (va_runV (As := [.int v_133, .int 0]) (rest := []) G0 (c_X12_put l E G L_114 f_115 H_j59.size u v_133 0 hG hWF Tu (show cdv f_115 G u ≤ 339 by omega)) (cwV 2 G0.2.2.2.2 g_X12_term_X12_put_156 rfl rfl rfl (by decide +kernel) ⟨(show 0 + 1 ≤ fr + 1 by omega), (show 8 + (3 + 11) + 0 ≤ lo + 60 by omega)⟩) (py_preV hw (C := RX12) (T := TX12) (N := 54) rfl hr_127) rfl rfl hl.1 rfl (lv_room (Nat.le_of_ble_eq_true rfl)) dX12_term_60 ⟨(Nat.le_of_ble_eq_true rfl), (Nat.le_of_ble_eq_true rfl)⟩) (fun L_134 f_135 H_136 locs hp_137 hw => ?_)
            obtain ⟨en_139, en_140, hWF, kp_141, fk_142⟩ := hp_137
            have en_139 : PT f_115 f_135 G u v_133 (0 : Int32) := en_139
            have hFK := hFK.trans fk_142 (by decide)
            have hKP := hKP.trans kp_141 (by decide) (by decide)
            have hr_127 := kp_at kp_141 hWF Tu (by decide) (by decide) (by decide) hr_127
            have tq_143 := mi_row hr_127 2 rfl
            have tq_144 := mi_row hr_127 3 rfl
            have bv_124 := wf_free v_124
            have tq_145 := mi_row hr_127 4 rfl
            have bv_125 := wf_free v_125
            have tq_146 := mi_row hr_127 5 rfl
            have bv_126 := wf_free v_126
            have tq_147 := mi_row hr_127 14 rfl
            have hTR : TR f f_135 G u (14 - 2 * wb) 0 1 := hTR.trans (en_139.tr (by omega)) (fun q => by omega)
            refine lv_aload_n G0.1 G0.2.1 dX12_term_63 rfl (lv_at hl 1 rfl) ?_
            refine py_get (C := RX12) (T := TX12) (N := 54) (k := 4) (v := .int v_125) G0 hw in_X12_term_X12 rfl hr_127 (by decide) (by decide +kernel) rfl dX12_term_64 ?_
            refine lv_iconst (v := (-1)) G0.1 G0.2.1 dX12_term_67 (by decide) ?_
            refine lv_icmp_ne (tgt := 78) G0.1 G0.2.1 dX12_term_68 (by decide) (fun c_148 => ?_) (fun c_148 => ?_)
            · skip
              have tc_148 := ti_ne c_148
              clear en_120
              refine lv_iconst (v := (-1)) G0.1 G0.2.1 dX12_term_78 (by decide) ?_
              refine lv_istore_n (lv' := [(1, .int (-1)), (0, .ref u)]) G0.1 G0.2.1 dX12_term_79 rfl hl (by decide) rfl (fun ls hl => ?_)
              refine lv_goto (tgt := 21) G0.1 G0.2.1 dX12_term_80 (by decide) ?_
              exact ih_21 ((mi f u 2 - mi f_135 u 3).toNat) (by omega) (-1) L_134 f_135 _ _ ls rfl hWF hKP hFK hTR (by first | omega | (intros; omega)) (by first | omega | (intros; omega)) (by first | omega | (intros; omega)) (by first | omega | (intros; omega)) hw (lv_sub hl [0, 1] rfl)
            · skip
              have tc_148 := ti_eq c_148
              replace en_120 := en_120 (by omega)
              refine lv_aload_n G0.1 G0.2.1 dX12_term_71 rfl (lv_at hl 1 rfl) ?_
              refine py_calli hw (va_runV (As := []) (rest := []) G0 (c_X12_look l E G L_134 f_135 H_136.size u hG hWF Tu (show 0 ≤ mi f_135 u 3 ∧ mi f_135 u 3 ≤ mi f_135 u 2 by omega)) (cwV 0 G0.2.2.2.2 g_X12_term_X12_look_146 rfl rfl rfl (by decide +kernel) ⟨(show 1 + 1 ≤ fr + 1 by omega), (show 8 + (1 + 11) + 20 ≤ lo + 60 by omega)⟩) (py_preV hw (C := RX12) (T := TX12) (N := 54) rfl hr_127) rfl rfl hl.1 rfl (lv_room (Nat.le_of_ble_eq_true rfl)) dX12_term_72 ⟨(Nat.le_of_ble_eq_true rfl), (Nat.le_of_ble_eq_true rfl)⟩) (fun r_153 L_149 f_150 H_151 locs hp_152 hw => ?_)
              obtain ⟨en_154, en_155, en_156, hWF, kp_157, fk_158⟩ := hp_152
              have cq_159 := cdv_k hG Tu kp_157 fk_158 (by decide)
              have hFK := hFK.trans fk_158 (by decide)
              have hKP := hKP.trans kp_157 (by decide) (by decide)
              obtain ⟨v_160, hr_161⟩ := fk_3 hWF Tu fk_158 hr_127
              have tq_162 := mi_row hr_161 2 rfl
              have tq_163 := mi_row hr_161 3 rfl
              have bv_160 := wf_free v_160
              have tq_164 := mi_row hr_161 4 rfl
              have bv_125 := wf_free v_125
              have tq_165 := mi_row hr_161 5 rfl
              have bv_126 := wf_free v_126
              have tq_166 := mi_row hr_161 14 rfl
              have hTR := hTR.kp hG Tu kp_157 fk_158 (by decide) (fun q => by omega)
              have br_153 := wf_free r_153
              refine lv_goto (tgt := 79) G0.1 G0.2.1 dX12_term_75 (by decide) ?_
              refine lv_istore_n (lv' := [(1, .int r_153), (0, .ref u)]) G0.1 G0.2.1 dX12_term_79 rfl hl (by decide) rfl (fun ls hl => ?_)
              refine lv_goto (tgt := 21) G0.1 G0.2.1 dX12_term_80 (by decide) ?_
              exact ih_21 ((mi f u 2 - mi f_150 u 3).toNat) (by omega) r_153 L_149 f_150 _ _ ls rfl hWF hKP hFK hTR (by first | omega | (intros; omega)) (by first | omega | (intros; omega)) (by first | omega | (intros; omega)) (by first | omega | (intros; omega)) hw (lv_sub hl [0, 1] rfl)
          refine lv_icmp_ne (tgt := 58) G0.1 G0.2.1 dX12_term_51 (by decide) (fun c_167 => ?_) (fun c_167 => ?_)
          · skip
            have tc_167 := ti_ne c_167
            refine lv_iconst (v := 5) G0.1 G0.2.1 dX12_term_58 (by decide) ?_
            exact jn_59 5 _ _ ls ⟨by omega, by omega⟩ hw (lv_sub hl [0, 1] rfl)
          · skip
            have tc_167 := ti_eq c_167
            refine lv_iconst (v := 4) G0.1 G0.2.1 dX12_term_54 (by decide) ?_
            refine lv_goto (tgt := 59) G0.1 G0.2.1 dX12_term_55 (by decide) ?_
            exact jn_59 4 _ _ ls ⟨by omega, by omega⟩ hw (lv_sub hl [0, 1] rfl)
        · skip
          have tc_62 := ti_ne c_62
          refine lv_iload_n G0.1 G0.2.1 dX12_term_27 rfl (lv_at hl 0 rfl) ?_
          refine lv_bipush (v := 47) G0.1 G0.2.1 dX12_term_28 (by decide) ?_
          refine lv_icmp_ne (tgt := 83) G0.1 G0.2.1 dX12_term_30 (by decide) (fun c_168 => ?_) (fun c_168 => ?_)
          · skip
            have tc_168 := ti_ne c_168
            exact py_vret G0 hr hlk hw ⟨(by first | omega | (intro q; omega)), (by first | omega | (intro q; omega)), hTR, hWF, hKP, hFK⟩ dX12_term_83
          · skip
            have tc_168 := ti_eq c_168
            replace iv2 := iv2 (by omega)
            refine lv_aload_n G0.1 G0.2.1 dX12_term_33 rfl (lv_at hl 1 rfl) ?_
            refine lv_dup G0.1 G0.2.1 dX12_term_34 rfl ?_
            obtain ⟨v_169, v_170, v_171, v_172, v_173, v_174, v_175, v_176, v_177, v_178, v_179, v_180, y_181, v_182, v_183, v_184, v_185, v_186, y_187, v_188, y_189, v_190, hr_203, b_191, b_192, b_193, b_194, b_195, b_196, b_197, b_198, b_199, b_200, b_201, b_202⟩ := wg_12 hWF Tu
            have tq_204 := mi_row hr_203 2 rfl
            have tq_205 := mi_row hr_203 3 rfl
            have bv_171 := wf_free v_171
            have tq_206 := mi_row hr_203 4 rfl
            have bv_172 := wf_free v_172
            have tq_207 := mi_row hr_203 5 rfl
            have bv_173 := wf_free v_173
            have tq_208 := mi_row hr_203 14 rfl
            refine py_get (C := RX12) (T := TX12) (N := 54) (k := 3) (v := .int v_171) G0 hw in_X12_term_X12 rfl hr_203 (by decide) (by decide +kernel) rfl dX12_term_35 ?_
            refine lv_iconst (v := 1) G0.1 G0.2.1 dX12_term_38 (by decide) ?_
            refine lv_iadd G0.1 G0.2.1 dX12_term_39 ?_
            refine lv_topi (fun x_209 ex_209 => ?_)
            first | have tx_209 := ti_add ex_209 (by omega -splitDisjunctions) (by omega -splitDisjunctions) | skip
            refine py_put (C := RX12) (T := TX12) (N := 54) (k := 3) (v := .int x_209) (fs' := [.int v_169, .ref (G.2 u 1), .int v_170, .int x_209, .int v_172, .int v_173, .ref (G.2 u 6), .ref (G.2 u 7), .ref (G.2 u 8), .ref (G.2 u 9), .ref (G.2 u 10), .ref (G.2 u 11), .ref (G.2 u 12), .int v_174, .int v_175, .ref (G.2 u 15), .ref (G.2 u 16), .ref (G.2 u 17), .ref (G.2 u 18), .int v_176, .int v_177, .ref (G.2 u 21), .ref (G.2 u 22), .ref (G.2 u 23), .int v_178, .int v_179, .ref (G.2 u 26), .ref (G.2 u 27), .ref (G.2 u 28), .int v_180, .long y_181, .int v_182, .int v_183, .int v_184, .int v_185, .ref (G.2 u 35), .ref (G.2 u 36), .ref (G.2 u 37), .ref (G.2 u 38), .ref (G.2 u 39), .ref (G.2 u 40), .ref (G.2 u 41), .ref (G.2 u 42), .int v_186, .ref (G.2 u 44), .ref (G.2 u 45), .ref (G.2 u 46), .ref (G.2 u 47), .long y_187, .ref (G.2 u 49), .ref (G.2 u 50), .int v_188, .long y_189, .int v_190]) (ty0 := tyX12) G0 hw tyX12_ok nmX12 in_X12_term_X12 rfl hr_203 (by decide) (by decide +kernel) rfl rfl rfl rfl (Nat.le_of_ble_eq_true rfl) rfl dX12_term_40 (fun f_210 H_211 locs h_212 x_213 hw => ?_)
            have hFK := hFK.put hr_203 h_212 3 (by decide) rfl
            have cq_214 := cdv_own (f1 := f_j21) (f2 := f_210) hG hWF Tu x_213 (by have z1 := mi_row hr_203 14 rfl; have z2 := mi_row h_212 14 rfl; omega)
            have hTR := hTR.own hG hWF Tu x_213 (by have z1 := mi_row hr_203 14 rfl; have z2 := mi_row h_212 14 rfl; omega) (by intro q; have z1 := mi_row hr_203 4 rfl; have z2 := mi_row h_212 4 rfl; omega)
            have hKP := hKP.upd hWF x_213 Tu (Or.inl (by decide))
            have hWF := wf_upd hWF h_212 x_213 (by rw [Tu]; exact ⟨v_169, v_170, x_209, v_172, v_173, v_174, v_175, v_176, v_177, v_178, v_179, v_180, y_181, v_182, v_183, v_184, v_185, v_186, y_187, v_188, y_189, v_190, rfl, ⟨by omega, by omega⟩, ⟨by omega, by omega⟩, ⟨by omega, by omega⟩, ⟨by omega, by omega⟩, ⟨by omega, by omega⟩, ⟨by omega, by omega⟩, ⟨by omega, by omega⟩, ⟨by omega, by omega⟩, ⟨by omega, by omega⟩, ⟨by omega, by omega⟩, ⟨by omega, by omega⟩, ⟨by omega, by omega⟩⟩)
            have tq_215 := mi_row h_212 2 rfl
            have tq_216 := mi_row h_212 3 rfl
            have bx_209 := wf_free x_209
            have tq_217 := mi_row h_212 4 rfl
            have bv_172 := wf_free v_172
            have tq_218 := mi_row h_212 5 rfl
            have bv_173 := wf_free v_173
            have tq_219 := mi_row h_212 14 rfl
            refine lv_aload_n G0.1 G0.2.1 dX12_term_43 rfl (lv_at hl 1 rfl) ?_
            refine py_callv hw (va_runV (As := []) (rest := []) G0 (ih_atom L_j21 f_210 H_211.size u hWF Tu (show mi f_210 u 4 = -1 ∧ wb ≤ mi f_210 u 5 ∧ mi f_210 u 5 ≤ 6 ∧ 0 ≤ mi f_210 u 3 ∧ mi f_210 u 3 ≤ mi f_210 u 2 ∧ cdv f_210 G u ≤ mi f_210 u 3 by omega)) (cwV 0 G0.2.2.2.2 g_X12_term_X12_atom_174 rfl rfl rfl (by decide +kernel) ⟨(show f_atom + 1 ≤ fr + 1 by omega), (show 8 + (2 + 11) + l_atom ≤ lo + 60 by omega)⟩) (py_preV hw (C := RX12) (T := TX12) (N := 54) rfl h_212) rfl rfl hl.1 rfl (lv_room (Nat.le_of_ble_eq_true rfl)) dX12_term_44 ⟨(Nat.le_of_ble_eq_true rfl), (Nat.le_of_ble_eq_true rfl)⟩) (fun L_220 f_221 H_222 locs hp_223 hw => ?_)
            obtain ⟨en_225, en_226, en_227, hWF, kp_228, fk_229⟩ := hp_223
            have hFK := hFK.trans fk_229 (by decide)
            have hKP := hKP.trans kp_228 (by decide) (by decide)
            obtain ⟨v_230, v_231, v_232, hr_233⟩ := fk_3_4_5 hWF Tu fk_229 h_212
            have tq_234 := mi_row hr_233 2 rfl
            have tq_235 := mi_row hr_233 3 rfl
            have bv_230 := wf_free v_230
            have tq_236 := mi_row hr_233 4 rfl
            have bv_231 := wf_free v_231
            have tq_237 := mi_row hr_233 5 rfl
            have bv_232 := wf_free v_232
            have tq_238 := mi_row hr_233 14 rfl
            have hTR : TR f f_221 G u (14 - 2 * wb) 0 2 := hTR.trans (en_227.lift (b := 1) (by omega) (by omega) (by omega) (by omega)) (fun q => by omega)
            refine lv_aload_n G0.1 G0.2.1 dX12_term_47 rfl (lv_at hl 1 rfl) ?_
            refine lv_iload_n G0.1 G0.2.1 dX12_term_48 rfl (lv_at hl 0 rfl) ?_
            refine lv_bipush (v := 42) G0.1 G0.2.1 dX12_term_49 (by decide) ?_
            have jn_59 : ∀ (v_239 : Int32) (H_j59 : Heap) (locs : List Loc) (ls : Array Slot), (4 ≤ v_239.toInt ∧ v_239.toInt ≤ 5) → py_W E (va_A (va_pl L f) s.heap.size) s L_220 f_221 H_j59 locs → lv_has ls 2 [(1, .int v_61), (0, .ref u)] → W p l e (headSpec w_X12_term ({ frames := fr + 1, cells := 0, slots := 0, locals := lo + 60 })).room s m ([.ref u] : List Value).toArray below meth c H_j59 locs 0 0 (MQ below (py_Qv E L f s.heap.size (fun L1 f1 => (mi f u 3 ≤ mi f1 u 3 ∧ cdv f1 G u - cdv f G u ≤ mi f1 u 3 - mi f u 3 ∧ mi f1 u 3 ≤ 167 - mi f u 5) ∧ (mi f1 u 4 = -1 → mi f1 u 5 = mi f u 5 ∧ mi f1 u 3 ≤ mi f u 2) ∧ (TR f f1 G u (14 - 2 * wb) 0 1) ∧ WF E G L1 f1 ∧ KP G [41, 42, 43, 13] false f f1 ∧ FK [3, 4, 5] f f1 u)) ([.ref u] : List Value).toArray s 0 0 (va_A (va_pl L f) s.heap.size)) (F0 m 59 ls [.int v_239, .ref u]) := by
              intro v_239 H_j59 locs ls bv_239 hw hl
              refine lv_iconst (v := 0) G0.1 G0.2.1 dX12_term_59 (by decide) ?_
              refine py_callv hw (va_runV (As := [.int v_239, .int 0]) (rest := []) G0 (c_X12_put l E G L_220 f_221 H_j59.size u v_239 0 hG hWF Tu (show cdv f_221 G u ≤ 339 by omega)) (cwV 2 G0.2.2.2.2 g_X12_term_X12_put_156 rfl rfl rfl (by decide +kernel) ⟨(show 0 + 1 ≤ fr + 1 by omega), (show 8 + (3 + 11) + 0 ≤ lo + 60 by omega)⟩) (py_preV hw (C := RX12) (T := TX12) (N := 54) rfl hr_233) rfl rfl hl.1 rfl (lv_room (Nat.le_of_ble_eq_true rfl)) dX12_term_60 ⟨(Nat.le_of_ble_eq_true rfl), (Nat.le_of_ble_eq_true rfl)⟩) (fun L_240 f_241 H_242 locs hp_243 hw => ?_)
              obtain ⟨en_245, en_246, hWF, kp_247, fk_248⟩ := hp_243
              have en_245 : PT f_221 f_241 G u v_239 (0 : Int32) := en_245
              have hFK := hFK.trans fk_248 (by decide)
              have hKP := hKP.trans kp_247 (by decide) (by decide)
              have hr_233 := kp_at kp_247 hWF Tu (by decide) (by decide) (by decide) hr_233
              have tq_249 := mi_row hr_233 2 rfl
              have tq_250 := mi_row hr_233 3 rfl
              have bv_230 := wf_free v_230
              have tq_251 := mi_row hr_233 4 rfl
              have bv_231 := wf_free v_231
              have tq_252 := mi_row hr_233 5 rfl
              have bv_232 := wf_free v_232
              have tq_253 := mi_row hr_233 14 rfl
              have hTR : TR f f_241 G u (14 - 2 * wb) 0 1 := hTR.trans (en_245.tr (by omega)) (fun q => by omega)
              refine lv_aload_n G0.1 G0.2.1 dX12_term_63 rfl (lv_at hl 1 rfl) ?_
              refine py_get (C := RX12) (T := TX12) (N := 54) (k := 4) (v := .int v_231) G0 hw in_X12_term_X12 rfl hr_233 (by decide) (by decide +kernel) rfl dX12_term_64 ?_
              refine lv_iconst (v := (-1)) G0.1 G0.2.1 dX12_term_67 (by decide) ?_
              refine lv_icmp_ne (tgt := 78) G0.1 G0.2.1 dX12_term_68 (by decide) (fun c_254 => ?_) (fun c_254 => ?_)
              · skip
                have tc_254 := ti_ne c_254
                clear en_226
                refine lv_iconst (v := (-1)) G0.1 G0.2.1 dX12_term_78 (by decide) ?_
                refine lv_istore_n (lv' := [(1, .int (-1)), (0, .ref u)]) G0.1 G0.2.1 dX12_term_79 rfl hl (by decide) rfl (fun ls hl => ?_)
                refine lv_goto (tgt := 21) G0.1 G0.2.1 dX12_term_80 (by decide) ?_
                exact ih_21 ((mi f u 2 - mi f_241 u 3).toNat) (by omega) (-1) L_240 f_241 _ _ ls rfl hWF hKP hFK hTR (by first | omega | (intros; omega)) (by first | omega | (intros; omega)) (by first | omega | (intros; omega)) (by first | omega | (intros; omega)) hw (lv_sub hl [0, 1] rfl)
              · skip
                have tc_254 := ti_eq c_254
                replace en_226 := en_226 (by omega)
                refine lv_aload_n G0.1 G0.2.1 dX12_term_71 rfl (lv_at hl 1 rfl) ?_
                refine py_calli hw (va_runV (As := []) (rest := []) G0 (c_X12_look l E G L_240 f_241 H_242.size u hG hWF Tu (show 0 ≤ mi f_241 u 3 ∧ mi f_241 u 3 ≤ mi f_241 u 2 by omega)) (cwV 0 G0.2.2.2.2 g_X12_term_X12_look_146 rfl rfl rfl (by decide +kernel) ⟨(show 1 + 1 ≤ fr + 1 by omega), (show 8 + (1 + 11) + 20 ≤ lo + 60 by omega)⟩) (py_preV hw (C := RX12) (T := TX12) (N := 54) rfl hr_233) rfl rfl hl.1 rfl (lv_room (Nat.le_of_ble_eq_true rfl)) dX12_term_72 ⟨(Nat.le_of_ble_eq_true rfl), (Nat.le_of_ble_eq_true rfl)⟩) (fun r_259 L_255 f_256 H_257 locs hp_258 hw => ?_)
                obtain ⟨en_260, en_261, en_262, hWF, kp_263, fk_264⟩ := hp_258
                have cq_265 := cdv_k hG Tu kp_263 fk_264 (by decide)
                have hFK := hFK.trans fk_264 (by decide)
                have hKP := hKP.trans kp_263 (by decide) (by decide)
                obtain ⟨v_266, hr_267⟩ := fk_3 hWF Tu fk_264 hr_233
                have tq_268 := mi_row hr_267 2 rfl
                have tq_269 := mi_row hr_267 3 rfl
                have bv_266 := wf_free v_266
                have tq_270 := mi_row hr_267 4 rfl
                have bv_231 := wf_free v_231
                have tq_271 := mi_row hr_267 5 rfl
                have bv_232 := wf_free v_232
                have tq_272 := mi_row hr_267 14 rfl
                have hTR := hTR.kp hG Tu kp_263 fk_264 (by decide) (fun q => by omega)
                have br_259 := wf_free r_259
                refine lv_goto (tgt := 79) G0.1 G0.2.1 dX12_term_75 (by decide) ?_
                refine lv_istore_n (lv' := [(1, .int r_259), (0, .ref u)]) G0.1 G0.2.1 dX12_term_79 rfl hl (by decide) rfl (fun ls hl => ?_)
                refine lv_goto (tgt := 21) G0.1 G0.2.1 dX12_term_80 (by decide) ?_
                exact ih_21 ((mi f u 2 - mi f_256 u 3).toNat) (by omega) r_259 L_255 f_256 _ _ ls rfl hWF hKP hFK hTR (by first | omega | (intros; omega)) (by first | omega | (intros; omega)) (by first | omega | (intros; omega)) (by first | omega | (intros; omega)) hw (lv_sub hl [0, 1] rfl)
            refine lv_icmp_ne (tgt := 58) G0.1 G0.2.1 dX12_term_51 (by decide) (fun c_273 => ?_) (fun c_273 => ?_)
            · skip
              have tc_273 := ti_ne c_273
              refine lv_iconst (v := 5) G0.1 G0.2.1 dX12_term_58 (by decide) ?_
              exact jn_59 5 _ _ ls ⟨by omega, by omega⟩ hw (lv_sub hl [0, 1] rfl)
            · skip
              have tc_273 := ti_eq c_273
              refine lv_iconst (v := 4) G0.1 G0.2.1 dX12_term_54 (by decide) ?_
              refine lv_goto (tgt := 59) G0.1 G0.2.1 dX12_term_55 (by decide) ?_
              exact jn_59 4 _ _ ls ⟨by omega, by omega⟩ hw (lv_sub hl [0, 1] rfl)
    exact lo_21 _ (-1) L_41 f_42 _ _ ls rfl hWF hKP hFK hTR (by first | omega | (intros; omega)) (by first | omega | (intros; omega)) (by first | omega | (intros; omega)) (by first | omega | (intros; omega)) hw (lv_sub hl [0, 1] rfl)
  · skip
    have tc_60 := ti_eq c_60
    replace en_47 := en_47 (by omega)
    refine lv_aload_n G0.1 G0.2.1 dX12_term_12 rfl (lv_at hl 0 rfl) ?_
    refine py_calli hw (va_runV (As := []) (rest := []) G0 (c_X12_look l E G L_41 f_42 H_43.size u hG hWF Tu (show 0 ≤ mi f_42 u 3 ∧ mi f_42 u 3 ≤ mi f_42 u 2 by omega)) (cwV 0 G0.2.2.2.2 g_X12_term_X12_look_146 rfl rfl rfl (by decide +kernel) ⟨(show 1 + 1 ≤ fr + 1 by omega), (show 8 + (1 + 11) + 20 ≤ lo + 60 by omega)⟩) (py_preV hw (C := RX12) (T := TX12) (N := 54) rfl hr_54) rfl rfl hl.1 rfl (lv_room (Nat.le_of_ble_eq_true rfl)) dX12_term_13 ⟨(Nat.le_of_ble_eq_true rfl), (Nat.le_of_ble_eq_true rfl)⟩) (fun r_278 L_274 f_275 H_276 locs hp_277 hw => ?_)
    obtain ⟨en_279, en_280, en_281, hWF, kp_282, fk_283⟩ := hp_277
    have cq_284 := cdv_k hG Tu kp_282 fk_283 (by decide)
    have hFK := hFK.trans fk_283 (by decide)
    have hKP := hKP.trans kp_282 (by decide) (by decide)
    obtain ⟨v_285, hr_286⟩ := fk_3 hWF Tu fk_283 hr_54
    have tq_287 := mi_row hr_286 2 rfl
    have tq_288 := mi_row hr_286 3 rfl
    have bv_285 := wf_free v_285
    have tq_289 := mi_row hr_286 4 rfl
    have bv_52 := wf_free v_52
    have tq_290 := mi_row hr_286 5 rfl
    have bv_53 := wf_free v_53
    have tq_291 := mi_row hr_286 14 rfl
    have hTR := hTR.kp hG Tu kp_282 fk_283 (by decide) (fun q => by omega)
    have br_278 := wf_free r_278
    refine lv_goto (tgt := 20) G0.1 G0.2.1 dX12_term_16 (by decide) ?_
    refine lv_istore_n (lv' := [(1, .int r_278), (0, .ref u)]) G0.1 G0.2.1 dX12_term_20 rfl hl (by decide) rfl (fun ls hl => ?_)
    have lo_21 : ∀ n_21 : Nat, ∀ (v_292 : Int32) (L_j21 : List Nat) (f_j21 : py_F) (H_j21 : Heap) (locs : List Loc) (ls : Array Slot), (mi f u 2 - mi f_j21 u 3).toNat = n_21 → WF E G L_j21 f_j21 → KP G [41, 42, 43, 13] false f f_j21 → FK [3, 4, 5] f f_j21 u → TR f f_j21 G u (14 - 2 * wb) 0 1 → (mi f u 3 ≤ mi f_j21 u 3 ∧ cdv f_j21 G u - cdv f G u ≤ mi f_j21 u 3 - mi f u 3 ∧ mi f_j21 u 3 ≤ 167 - mi f u 5) → (mi f_j21 u 4 = -1 → mi f_j21 u 5 = mi f u 5 ∧ mi f_j21 u 3 ≤ mi f u 2) → (v_292.toInt ≠ -1 → mi f_j21 u 4 = -1 ∧ mi f_j21 u 3 < mi f u 2) → (mi f_j21 u 2 = mi f u 2) → py_W E (va_A (va_pl L f) s.heap.size) s L_j21 f_j21 H_j21 locs → lv_has ls 2 [(1, .int v_292), (0, .ref u)] → W p l e (headSpec w_X12_term ({ frames := fr + 1, cells := 0, slots := 0, locals := lo + 60 })).room s m ([.ref u] : List Value).toArray below meth c H_j21 locs 0 0 (MQ below (py_Qv E L f s.heap.size (fun L1 f1 => (mi f u 3 ≤ mi f1 u 3 ∧ cdv f1 G u - cdv f G u ≤ mi f1 u 3 - mi f u 3 ∧ mi f1 u 3 ≤ 167 - mi f u 5) ∧ (mi f1 u 4 = -1 → mi f1 u 5 = mi f u 5 ∧ mi f1 u 3 ≤ mi f u 2) ∧ (TR f f1 G u (14 - 2 * wb) 0 1) ∧ WF E G L1 f1 ∧ KP G [41, 42, 43, 13] false f f1 ∧ FK [3, 4, 5] f f1 u)) ([.ref u] : List Value).toArray s 0 0 (va_A (va_pl L f) s.heap.size)) (F0 m 21 ls []) := by
      intro n_21
      induction n_21 using Nat.strongRecOn with
      | _ n_21 ih_21 =>
        intro v_292 L_j21 f_j21 H_j21 locs ls hn_21 hWF hKP hFK hTR iv0 iv1 iv2 iv3 hw hl
        refine lv_iload_n G0.1 G0.2.1 dX12_term_21 rfl (lv_at hl 0 rfl) ?_
        refine lv_bipush (v := 42) G0.1 G0.2.1 dX12_term_22 (by decide) ?_
        refine lv_icmp_eq (tgt := 33) G0.1 G0.2.1 dX12_term_24 (by decide) (fun c_293 => ?_) (fun c_293 => ?_)
        · skip
          have tc_293 := ti_eq c_293
          replace iv2 := iv2 (by omega)
          refine lv_aload_n G0.1 G0.2.1 dX12_term_33 rfl (lv_at hl 1 rfl) ?_
          refine lv_dup G0.1 G0.2.1 dX12_term_34 rfl ?_
          obtain ⟨v_294, v_295, v_296, v_297, v_298, v_299, v_300, v_301, v_302, v_303, v_304, v_305, y_306, v_307, v_308, v_309, v_310, v_311, y_312, v_313, y_314, v_315, hr_328, b_316, b_317, b_318, b_319, b_320, b_321, b_322, b_323, b_324, b_325, b_326, b_327⟩ := wg_12 hWF Tu
          have tq_329 := mi_row hr_328 2 rfl
          have tq_330 := mi_row hr_328 3 rfl
          have bv_296 := wf_free v_296
          have tq_331 := mi_row hr_328 4 rfl
          have bv_297 := wf_free v_297
          have tq_332 := mi_row hr_328 5 rfl
          have bv_298 := wf_free v_298
          have tq_333 := mi_row hr_328 14 rfl
          refine py_get (C := RX12) (T := TX12) (N := 54) (k := 3) (v := .int v_296) G0 hw in_X12_term_X12 rfl hr_328 (by decide) (by decide +kernel) rfl dX12_term_35 ?_
          refine lv_iconst (v := 1) G0.1 G0.2.1 dX12_term_38 (by decide) ?_
          refine lv_iadd G0.1 G0.2.1 dX12_term_39 ?_
          refine lv_topi (fun x_334 ex_334 => ?_)
          first | have tx_334 := ti_add ex_334 (by omega -splitDisjunctions) (by omega -splitDisjunctions) | skip
          refine py_put (C := RX12) (T := TX12) (N := 54) (k := 3) (v := .int x_334) (fs' := [.int v_294, .ref (G.2 u 1), .int v_295, .int x_334, .int v_297, .int v_298, .ref (G.2 u 6), .ref (G.2 u 7), .ref (G.2 u 8), .ref (G.2 u 9), .ref (G.2 u 10), .ref (G.2 u 11), .ref (G.2 u 12), .int v_299, .int v_300, .ref (G.2 u 15), .ref (G.2 u 16), .ref (G.2 u 17), .ref (G.2 u 18), .int v_301, .int v_302, .ref (G.2 u 21), .ref (G.2 u 22), .ref (G.2 u 23), .int v_303, .int v_304, .ref (G.2 u 26), .ref (G.2 u 27), .ref (G.2 u 28), .int v_305, .long y_306, .int v_307, .int v_308, .int v_309, .int v_310, .ref (G.2 u 35), .ref (G.2 u 36), .ref (G.2 u 37), .ref (G.2 u 38), .ref (G.2 u 39), .ref (G.2 u 40), .ref (G.2 u 41), .ref (G.2 u 42), .int v_311, .ref (G.2 u 44), .ref (G.2 u 45), .ref (G.2 u 46), .ref (G.2 u 47), .long y_312, .ref (G.2 u 49), .ref (G.2 u 50), .int v_313, .long y_314, .int v_315]) (ty0 := tyX12) G0 hw tyX12_ok nmX12 in_X12_term_X12 rfl hr_328 (by decide) (by decide +kernel) rfl rfl rfl rfl (Nat.le_of_ble_eq_true rfl) rfl dX12_term_40 (fun f_335 H_336 locs h_337 x_338 hw => ?_)
          have hFK := hFK.put hr_328 h_337 3 (by decide) rfl
          have cq_339 := cdv_own (f1 := f_j21) (f2 := f_335) hG hWF Tu x_338 (by have z1 := mi_row hr_328 14 rfl; have z2 := mi_row h_337 14 rfl; omega)
          have hTR := hTR.own hG hWF Tu x_338 (by have z1 := mi_row hr_328 14 rfl; have z2 := mi_row h_337 14 rfl; omega) (by intro q; have z1 := mi_row hr_328 4 rfl; have z2 := mi_row h_337 4 rfl; omega)
          have hKP := hKP.upd hWF x_338 Tu (Or.inl (by decide))
          have hWF := wf_upd hWF h_337 x_338 (by rw [Tu]; exact ⟨v_294, v_295, x_334, v_297, v_298, v_299, v_300, v_301, v_302, v_303, v_304, v_305, y_306, v_307, v_308, v_309, v_310, v_311, y_312, v_313, y_314, v_315, rfl, ⟨by omega, by omega⟩, ⟨by omega, by omega⟩, ⟨by omega, by omega⟩, ⟨by omega, by omega⟩, ⟨by omega, by omega⟩, ⟨by omega, by omega⟩, ⟨by omega, by omega⟩, ⟨by omega, by omega⟩, ⟨by omega, by omega⟩, ⟨by omega, by omega⟩, ⟨by omega, by omega⟩, ⟨by omega, by omega⟩⟩)
          have tq_340 := mi_row h_337 2 rfl
          have tq_341 := mi_row h_337 3 rfl
          have bx_334 := wf_free x_334
          have tq_342 := mi_row h_337 4 rfl
          have bv_297 := wf_free v_297
          have tq_343 := mi_row h_337 5 rfl
          have bv_298 := wf_free v_298
          have tq_344 := mi_row h_337 14 rfl
          refine lv_aload_n G0.1 G0.2.1 dX12_term_43 rfl (lv_at hl 1 rfl) ?_
          refine py_callv hw (va_runV (As := []) (rest := []) G0 (ih_atom L_j21 f_335 H_336.size u hWF Tu (show mi f_335 u 4 = -1 ∧ wb ≤ mi f_335 u 5 ∧ mi f_335 u 5 ≤ 6 ∧ 0 ≤ mi f_335 u 3 ∧ mi f_335 u 3 ≤ mi f_335 u 2 ∧ cdv f_335 G u ≤ mi f_335 u 3 by omega)) (cwV 0 G0.2.2.2.2 g_X12_term_X12_atom_174 rfl rfl rfl (by decide +kernel) ⟨(show f_atom + 1 ≤ fr + 1 by omega), (show 8 + (2 + 11) + l_atom ≤ lo + 60 by omega)⟩) (py_preV hw (C := RX12) (T := TX12) (N := 54) rfl h_337) rfl rfl hl.1 rfl (lv_room (Nat.le_of_ble_eq_true rfl)) dX12_term_44 ⟨(Nat.le_of_ble_eq_true rfl), (Nat.le_of_ble_eq_true rfl)⟩) (fun L_345 f_346 H_347 locs hp_348 hw => ?_)
          obtain ⟨en_350, en_351, en_352, hWF, kp_353, fk_354⟩ := hp_348
          have hFK := hFK.trans fk_354 (by decide)
          have hKP := hKP.trans kp_353 (by decide) (by decide)
          obtain ⟨v_355, v_356, v_357, hr_358⟩ := fk_3_4_5 hWF Tu fk_354 h_337
          have tq_359 := mi_row hr_358 2 rfl
          have tq_360 := mi_row hr_358 3 rfl
          have bv_355 := wf_free v_355
          have tq_361 := mi_row hr_358 4 rfl
          have bv_356 := wf_free v_356
          have tq_362 := mi_row hr_358 5 rfl
          have bv_357 := wf_free v_357
          have tq_363 := mi_row hr_358 14 rfl
          have hTR : TR f f_346 G u (14 - 2 * wb) 0 2 := hTR.trans (en_352.lift (b := 1) (by omega) (by omega) (by omega) (by omega)) (fun q => by omega)
          refine lv_aload_n G0.1 G0.2.1 dX12_term_47 rfl (lv_at hl 1 rfl) ?_
          refine lv_iload_n G0.1 G0.2.1 dX12_term_48 rfl (lv_at hl 0 rfl) ?_
          refine lv_bipush (v := 42) G0.1 G0.2.1 dX12_term_49 (by decide) ?_
          have jn_59 : ∀ (v_364 : Int32) (H_j59 : Heap) (locs : List Loc) (ls : Array Slot), (4 ≤ v_364.toInt ∧ v_364.toInt ≤ 5) → py_W E (va_A (va_pl L f) s.heap.size) s L_345 f_346 H_j59 locs → lv_has ls 2 [(1, .int v_292), (0, .ref u)] → W p l e (headSpec w_X12_term ({ frames := fr + 1, cells := 0, slots := 0, locals := lo + 60 })).room s m ([.ref u] : List Value).toArray below meth c H_j59 locs 0 0 (MQ below (py_Qv E L f s.heap.size (fun L1 f1 => (mi f u 3 ≤ mi f1 u 3 ∧ cdv f1 G u - cdv f G u ≤ mi f1 u 3 - mi f u 3 ∧ mi f1 u 3 ≤ 167 - mi f u 5) ∧ (mi f1 u 4 = -1 → mi f1 u 5 = mi f u 5 ∧ mi f1 u 3 ≤ mi f u 2) ∧ (TR f f1 G u (14 - 2 * wb) 0 1) ∧ WF E G L1 f1 ∧ KP G [41, 42, 43, 13] false f f1 ∧ FK [3, 4, 5] f f1 u)) ([.ref u] : List Value).toArray s 0 0 (va_A (va_pl L f) s.heap.size)) (F0 m 59 ls [.int v_364, .ref u]) := by
            intro v_364 H_j59 locs ls bv_364 hw hl
            refine lv_iconst (v := 0) G0.1 G0.2.1 dX12_term_59 (by decide) ?_
            refine py_callv hw (va_runV (As := [.int v_364, .int 0]) (rest := []) G0 (c_X12_put l E G L_345 f_346 H_j59.size u v_364 0 hG hWF Tu (show cdv f_346 G u ≤ 339 by omega)) (cwV 2 G0.2.2.2.2 g_X12_term_X12_put_156 rfl rfl rfl (by decide +kernel) ⟨(show 0 + 1 ≤ fr + 1 by omega), (show 8 + (3 + 11) + 0 ≤ lo + 60 by omega)⟩) (py_preV hw (C := RX12) (T := TX12) (N := 54) rfl hr_358) rfl rfl hl.1 rfl (lv_room (Nat.le_of_ble_eq_true rfl)) dX12_term_60 ⟨(Nat.le_of_ble_eq_true rfl), (Nat.le_of_ble_eq_true rfl)⟩) (fun L_365 f_366 H_367 locs hp_368 hw => ?_)
            obtain ⟨en_370, en_371, hWF, kp_372, fk_373⟩ := hp_368
            have en_370 : PT f_346 f_366 G u v_364 (0 : Int32) := en_370
            have hFK := hFK.trans fk_373 (by decide)
            have hKP := hKP.trans kp_372 (by decide) (by decide)
            have hr_358 := kp_at kp_372 hWF Tu (by decide) (by decide) (by decide) hr_358
            have tq_374 := mi_row hr_358 2 rfl
            have tq_375 := mi_row hr_358 3 rfl
            have bv_355 := wf_free v_355
            have tq_376 := mi_row hr_358 4 rfl
            have bv_356 := wf_free v_356
            have tq_377 := mi_row hr_358 5 rfl
            have bv_357 := wf_free v_357
            have tq_378 := mi_row hr_358 14 rfl
            have hTR : TR f f_366 G u (14 - 2 * wb) 0 1 := hTR.trans (en_370.tr (by omega)) (fun q => by omega)
            refine lv_aload_n G0.1 G0.2.1 dX12_term_63 rfl (lv_at hl 1 rfl) ?_
            refine py_get (C := RX12) (T := TX12) (N := 54) (k := 4) (v := .int v_356) G0 hw in_X12_term_X12 rfl hr_358 (by decide) (by decide +kernel) rfl dX12_term_64 ?_
            refine lv_iconst (v := (-1)) G0.1 G0.2.1 dX12_term_67 (by decide) ?_
            refine lv_icmp_ne (tgt := 78) G0.1 G0.2.1 dX12_term_68 (by decide) (fun c_379 => ?_) (fun c_379 => ?_)
            · skip
              have tc_379 := ti_ne c_379
              clear en_351
              refine lv_iconst (v := (-1)) G0.1 G0.2.1 dX12_term_78 (by decide) ?_
              refine lv_istore_n (lv' := [(1, .int (-1)), (0, .ref u)]) G0.1 G0.2.1 dX12_term_79 rfl hl (by decide) rfl (fun ls hl => ?_)
              refine lv_goto (tgt := 21) G0.1 G0.2.1 dX12_term_80 (by decide) ?_
              exact ih_21 ((mi f u 2 - mi f_366 u 3).toNat) (by omega) (-1) L_365 f_366 _ _ ls rfl hWF hKP hFK hTR (by first | omega | (intros; omega)) (by first | omega | (intros; omega)) (by first | omega | (intros; omega)) (by first | omega | (intros; omega)) hw (lv_sub hl [0, 1] rfl)
            · skip
              have tc_379 := ti_eq c_379
              replace en_351 := en_351 (by omega)
              refine lv_aload_n G0.1 G0.2.1 dX12_term_71 rfl (lv_at hl 1 rfl) ?_
              refine py_calli hw (va_runV (As := []) (rest := []) G0 (c_X12_look l E G L_365 f_366 H_367.size u hG hWF Tu (show 0 ≤ mi f_366 u 3 ∧ mi f_366 u 3 ≤ mi f_366 u 2 by omega)) (cwV 0 G0.2.2.2.2 g_X12_term_X12_look_146 rfl rfl rfl (by decide +kernel) ⟨(show 1 + 1 ≤ fr + 1 by omega), (show 8 + (1 + 11) + 20 ≤ lo + 60 by omega)⟩) (py_preV hw (C := RX12) (T := TX12) (N := 54) rfl hr_358) rfl rfl hl.1 rfl (lv_room (Nat.le_of_ble_eq_true rfl)) dX12_term_72 ⟨(Nat.le_of_ble_eq_true rfl), (Nat.le_of_ble_eq_true rfl)⟩) (fun r_384 L_380 f_381 H_382 locs hp_383 hw => ?_)
              obtain ⟨en_385, en_386, en_387, hWF, kp_388, fk_389⟩ := hp_383
              have cq_390 := cdv_k hG Tu kp_388 fk_389 (by decide)
              have hFK := hFK.trans fk_389 (by decide)
              have hKP := hKP.trans kp_388 (by decide) (by decide)
              obtain ⟨v_391, hr_392⟩ := fk_3 hWF Tu fk_389 hr_358
              have tq_393 := mi_row hr_392 2 rfl
              have tq_394 := mi_row hr_392 3 rfl
              have bv_391 := wf_free v_391
              have tq_395 := mi_row hr_392 4 rfl
              have bv_356 := wf_free v_356
              have tq_396 := mi_row hr_392 5 rfl
              have bv_357 := wf_free v_357
              have tq_397 := mi_row hr_392 14 rfl
              have hTR := hTR.kp hG Tu kp_388 fk_389 (by decide) (fun q => by omega)
              have br_384 := wf_free r_384
              refine lv_goto (tgt := 79) G0.1 G0.2.1 dX12_term_75 (by decide) ?_
              refine lv_istore_n (lv' := [(1, .int r_384), (0, .ref u)]) G0.1 G0.2.1 dX12_term_79 rfl hl (by decide) rfl (fun ls hl => ?_)
              refine lv_goto (tgt := 21) G0.1 G0.2.1 dX12_term_80 (by decide) ?_
              exact ih_21 ((mi f u 2 - mi f_381 u 3).toNat) (by omega) r_384 L_380 f_381 _ _ ls rfl hWF hKP hFK hTR (by first | omega | (intros; omega)) (by first | omega | (intros; omega)) (by first | omega | (intros; omega)) (by first | omega | (intros; omega)) hw (lv_sub hl [0, 1] rfl)
          refine lv_icmp_ne (tgt := 58) G0.1 G0.2.1 dX12_term_51 (by decide) (fun c_398 => ?_) (fun c_398 => ?_)
          · skip
            have tc_398 := ti_ne c_398
            refine lv_iconst (v := 5) G0.1 G0.2.1 dX12_term_58 (by decide) ?_
            exact jn_59 5 _ _ ls ⟨by omega, by omega⟩ hw (lv_sub hl [0, 1] rfl)
          · skip
            have tc_398 := ti_eq c_398
            refine lv_iconst (v := 4) G0.1 G0.2.1 dX12_term_54 (by decide) ?_
            refine lv_goto (tgt := 59) G0.1 G0.2.1 dX12_term_55 (by decide) ?_
            exact jn_59 4 _ _ ls ⟨by omega, by omega⟩ hw (lv_sub hl [0, 1] rfl)
        · skip
          have tc_293 := ti_ne c_293
          refine lv_iload_n G0.1 G0.2.1 dX12_term_27 rfl (lv_at hl 0 rfl) ?_
          refine lv_bipush (v := 47) G0.1 G0.2.1 dX12_term_28 (by decide) ?_
          refine lv_icmp_ne (tgt := 83) G0.1 G0.2.1 dX12_term_30 (by decide) (fun c_399 => ?_) (fun c_399 => ?_)
          · skip
            have tc_399 := ti_ne c_399
            exact py_vret G0 hr hlk hw ⟨(by first | omega | (intro q; omega)), (by first | omega | (intro q; omega)), hTR, hWF, hKP, hFK⟩ dX12_term_83
          · skip
            have tc_399 := ti_eq c_399
            replace iv2 := iv2 (by omega)
            refine lv_aload_n G0.1 G0.2.1 dX12_term_33 rfl (lv_at hl 1 rfl) ?_
            refine lv_dup G0.1 G0.2.1 dX12_term_34 rfl ?_
            obtain ⟨v_400, v_401, v_402, v_403, v_404, v_405, v_406, v_407, v_408, v_409, v_410, v_411, y_412, v_413, v_414, v_415, v_416, v_417, y_418, v_419, y_420, v_421, hr_434, b_422, b_423, b_424, b_425, b_426, b_427, b_428, b_429, b_430, b_431, b_432, b_433⟩ := wg_12 hWF Tu
            have tq_435 := mi_row hr_434 2 rfl
            have tq_436 := mi_row hr_434 3 rfl
            have bv_402 := wf_free v_402
            have tq_437 := mi_row hr_434 4 rfl
            have bv_403 := wf_free v_403
            have tq_438 := mi_row hr_434 5 rfl
            have bv_404 := wf_free v_404
            have tq_439 := mi_row hr_434 14 rfl
            refine py_get (C := RX12) (T := TX12) (N := 54) (k := 3) (v := .int v_402) G0 hw in_X12_term_X12 rfl hr_434 (by decide) (by decide +kernel) rfl dX12_term_35 ?_
            refine lv_iconst (v := 1) G0.1 G0.2.1 dX12_term_38 (by decide) ?_
            refine lv_iadd G0.1 G0.2.1 dX12_term_39 ?_
            refine lv_topi (fun x_440 ex_440 => ?_)
            first | have tx_440 := ti_add ex_440 (by omega -splitDisjunctions) (by omega -splitDisjunctions) | skip
            refine py_put (C := RX12) (T := TX12) (N := 54) (k := 3) (v := .int x_440) (fs' := [.int v_400, .ref (G.2 u 1), .int v_401, .int x_440, .int v_403, .int v_404, .ref (G.2 u 6), .ref (G.2 u 7), .ref (G.2 u 8), .ref (G.2 u 9), .ref (G.2 u 10), .ref (G.2 u 11), .ref (G.2 u 12), .int v_405, .int v_406, .ref (G.2 u 15), .ref (G.2 u 16), .ref (G.2 u 17), .ref (G.2 u 18), .int v_407, .int v_408, .ref (G.2 u 21), .ref (G.2 u 22), .ref (G.2 u 23), .int v_409, .int v_410, .ref (G.2 u 26), .ref (G.2 u 27), .ref (G.2 u 28), .int v_411, .long y_412, .int v_413, .int v_414, .int v_415, .int v_416, .ref (G.2 u 35), .ref (G.2 u 36), .ref (G.2 u 37), .ref (G.2 u 38), .ref (G.2 u 39), .ref (G.2 u 40), .ref (G.2 u 41), .ref (G.2 u 42), .int v_417, .ref (G.2 u 44), .ref (G.2 u 45), .ref (G.2 u 46), .ref (G.2 u 47), .long y_418, .ref (G.2 u 49), .ref (G.2 u 50), .int v_419, .long y_420, .int v_421]) (ty0 := tyX12) G0 hw tyX12_ok nmX12 in_X12_term_X12 rfl hr_434 (by decide) (by decide +kernel) rfl rfl rfl rfl (Nat.le_of_ble_eq_true rfl) rfl dX12_term_40 (fun f_441 H_442 locs h_443 x_444 hw => ?_)
            have hFK := hFK.put hr_434 h_443 3 (by decide) rfl
            have cq_445 := cdv_own (f1 := f_j21) (f2 := f_441) hG hWF Tu x_444 (by have z1 := mi_row hr_434 14 rfl; have z2 := mi_row h_443 14 rfl; omega)
            have hTR := hTR.own hG hWF Tu x_444 (by have z1 := mi_row hr_434 14 rfl; have z2 := mi_row h_443 14 rfl; omega) (by intro q; have z1 := mi_row hr_434 4 rfl; have z2 := mi_row h_443 4 rfl; omega)
            have hKP := hKP.upd hWF x_444 Tu (Or.inl (by decide))
            have hWF := wf_upd hWF h_443 x_444 (by rw [Tu]; exact ⟨v_400, v_401, x_440, v_403, v_404, v_405, v_406, v_407, v_408, v_409, v_410, v_411, y_412, v_413, v_414, v_415, v_416, v_417, y_418, v_419, y_420, v_421, rfl, ⟨by omega, by omega⟩, ⟨by omega, by omega⟩, ⟨by omega, by omega⟩, ⟨by omega, by omega⟩, ⟨by omega, by omega⟩, ⟨by omega, by omega⟩, ⟨by omega, by omega⟩, ⟨by omega, by omega⟩, ⟨by omega, by omega⟩, ⟨by omega, by omega⟩, ⟨by omega, by omega⟩, ⟨by omega, by omega⟩⟩)
            have tq_446 := mi_row h_443 2 rfl
            have tq_447 := mi_row h_443 3 rfl
            have bx_440 := wf_free x_440
            have tq_448 := mi_row h_443 4 rfl
            have bv_403 := wf_free v_403
            have tq_449 := mi_row h_443 5 rfl
            have bv_404 := wf_free v_404
            have tq_450 := mi_row h_443 14 rfl
            refine lv_aload_n G0.1 G0.2.1 dX12_term_43 rfl (lv_at hl 1 rfl) ?_
            refine py_callv hw (va_runV (As := []) (rest := []) G0 (ih_atom L_j21 f_441 H_442.size u hWF Tu (show mi f_441 u 4 = -1 ∧ wb ≤ mi f_441 u 5 ∧ mi f_441 u 5 ≤ 6 ∧ 0 ≤ mi f_441 u 3 ∧ mi f_441 u 3 ≤ mi f_441 u 2 ∧ cdv f_441 G u ≤ mi f_441 u 3 by omega)) (cwV 0 G0.2.2.2.2 g_X12_term_X12_atom_174 rfl rfl rfl (by decide +kernel) ⟨(show f_atom + 1 ≤ fr + 1 by omega), (show 8 + (2 + 11) + l_atom ≤ lo + 60 by omega)⟩) (py_preV hw (C := RX12) (T := TX12) (N := 54) rfl h_443) rfl rfl hl.1 rfl (lv_room (Nat.le_of_ble_eq_true rfl)) dX12_term_44 ⟨(Nat.le_of_ble_eq_true rfl), (Nat.le_of_ble_eq_true rfl)⟩) (fun L_451 f_452 H_453 locs hp_454 hw => ?_)
            obtain ⟨en_456, en_457, en_458, hWF, kp_459, fk_460⟩ := hp_454
            have hFK := hFK.trans fk_460 (by decide)
            have hKP := hKP.trans kp_459 (by decide) (by decide)
            obtain ⟨v_461, v_462, v_463, hr_464⟩ := fk_3_4_5 hWF Tu fk_460 h_443
            have tq_465 := mi_row hr_464 2 rfl
            have tq_466 := mi_row hr_464 3 rfl
            have bv_461 := wf_free v_461
            have tq_467 := mi_row hr_464 4 rfl
            have bv_462 := wf_free v_462
            have tq_468 := mi_row hr_464 5 rfl
            have bv_463 := wf_free v_463
            have tq_469 := mi_row hr_464 14 rfl
            have hTR : TR f f_452 G u (14 - 2 * wb) 0 2 := hTR.trans (en_458.lift (b := 1) (by omega) (by omega) (by omega) (by omega)) (fun q => by omega)
            refine lv_aload_n G0.1 G0.2.1 dX12_term_47 rfl (lv_at hl 1 rfl) ?_
            refine lv_iload_n G0.1 G0.2.1 dX12_term_48 rfl (lv_at hl 0 rfl) ?_
            refine lv_bipush (v := 42) G0.1 G0.2.1 dX12_term_49 (by decide) ?_
            have jn_59 : ∀ (v_470 : Int32) (H_j59 : Heap) (locs : List Loc) (ls : Array Slot), (4 ≤ v_470.toInt ∧ v_470.toInt ≤ 5) → py_W E (va_A (va_pl L f) s.heap.size) s L_451 f_452 H_j59 locs → lv_has ls 2 [(1, .int v_292), (0, .ref u)] → W p l e (headSpec w_X12_term ({ frames := fr + 1, cells := 0, slots := 0, locals := lo + 60 })).room s m ([.ref u] : List Value).toArray below meth c H_j59 locs 0 0 (MQ below (py_Qv E L f s.heap.size (fun L1 f1 => (mi f u 3 ≤ mi f1 u 3 ∧ cdv f1 G u - cdv f G u ≤ mi f1 u 3 - mi f u 3 ∧ mi f1 u 3 ≤ 167 - mi f u 5) ∧ (mi f1 u 4 = -1 → mi f1 u 5 = mi f u 5 ∧ mi f1 u 3 ≤ mi f u 2) ∧ (TR f f1 G u (14 - 2 * wb) 0 1) ∧ WF E G L1 f1 ∧ KP G [41, 42, 43, 13] false f f1 ∧ FK [3, 4, 5] f f1 u)) ([.ref u] : List Value).toArray s 0 0 (va_A (va_pl L f) s.heap.size)) (F0 m 59 ls [.int v_470, .ref u]) := by
              intro v_470 H_j59 locs ls bv_470 hw hl
              refine lv_iconst (v := 0) G0.1 G0.2.1 dX12_term_59 (by decide) ?_
              refine py_callv hw (va_runV (As := [.int v_470, .int 0]) (rest := []) G0 (c_X12_put l E G L_451 f_452 H_j59.size u v_470 0 hG hWF Tu (show cdv f_452 G u ≤ 339 by omega)) (cwV 2 G0.2.2.2.2 g_X12_term_X12_put_156 rfl rfl rfl (by decide +kernel) ⟨(show 0 + 1 ≤ fr + 1 by omega), (show 8 + (3 + 11) + 0 ≤ lo + 60 by omega)⟩) (py_preV hw (C := RX12) (T := TX12) (N := 54) rfl hr_464) rfl rfl hl.1 rfl (lv_room (Nat.le_of_ble_eq_true rfl)) dX12_term_60 ⟨(Nat.le_of_ble_eq_true rfl), (Nat.le_of_ble_eq_true rfl)⟩) (fun L_471 f_472 H_473 locs hp_474 hw => ?_)
              obtain ⟨en_476, en_477, hWF, kp_478, fk_479⟩ := hp_474
              have en_476 : PT f_452 f_472 G u v_470 (0 : Int32) := en_476
              have hFK := hFK.trans fk_479 (by decide)
              have hKP := hKP.trans kp_478 (by decide) (by decide)
              have hr_464 := kp_at kp_478 hWF Tu (by decide) (by decide) (by decide) hr_464
              have tq_480 := mi_row hr_464 2 rfl
              have tq_481 := mi_row hr_464 3 rfl
              have bv_461 := wf_free v_461
              have tq_482 := mi_row hr_464 4 rfl
              have bv_462 := wf_free v_462
              have tq_483 := mi_row hr_464 5 rfl
              have bv_463 := wf_free v_463
              have tq_484 := mi_row hr_464 14 rfl
              have hTR : TR f f_472 G u (14 - 2 * wb) 0 1 := hTR.trans (en_476.tr (by omega)) (fun q => by omega)
              refine lv_aload_n G0.1 G0.2.1 dX12_term_63 rfl (lv_at hl 1 rfl) ?_
              refine py_get (C := RX12) (T := TX12) (N := 54) (k := 4) (v := .int v_462) G0 hw in_X12_term_X12 rfl hr_464 (by decide) (by decide +kernel) rfl dX12_term_64 ?_
              refine lv_iconst (v := (-1)) G0.1 G0.2.1 dX12_term_67 (by decide) ?_
              refine lv_icmp_ne (tgt := 78) G0.1 G0.2.1 dX12_term_68 (by decide) (fun c_485 => ?_) (fun c_485 => ?_)
              · skip
                have tc_485 := ti_ne c_485
                clear en_457
                refine lv_iconst (v := (-1)) G0.1 G0.2.1 dX12_term_78 (by decide) ?_
                refine lv_istore_n (lv' := [(1, .int (-1)), (0, .ref u)]) G0.1 G0.2.1 dX12_term_79 rfl hl (by decide) rfl (fun ls hl => ?_)
                refine lv_goto (tgt := 21) G0.1 G0.2.1 dX12_term_80 (by decide) ?_
                exact ih_21 ((mi f u 2 - mi f_472 u 3).toNat) (by omega) (-1) L_471 f_472 _ _ ls rfl hWF hKP hFK hTR (by first | omega | (intros; omega)) (by first | omega | (intros; omega)) (by first | omega | (intros; omega)) (by first | omega | (intros; omega)) hw (lv_sub hl [0, 1] rfl)
              · skip
                have tc_485 := ti_eq c_485
                replace en_457 := en_457 (by omega)
                refine lv_aload_n G0.1 G0.2.1 dX12_term_71 rfl (lv_at hl 1 rfl) ?_
                refine py_calli hw (va_runV (As := []) (rest := []) G0 (c_X12_look l E G L_471 f_472 H_473.size u hG hWF Tu (show 0 ≤ mi f_472 u 3 ∧ mi f_472 u 3 ≤ mi f_472 u 2 by omega)) (cwV 0 G0.2.2.2.2 g_X12_term_X12_look_146 rfl rfl rfl (by decide +kernel) ⟨(show 1 + 1 ≤ fr + 1 by omega), (show 8 + (1 + 11) + 20 ≤ lo + 60 by omega)⟩) (py_preV hw (C := RX12) (T := TX12) (N := 54) rfl hr_464) rfl rfl hl.1 rfl (lv_room (Nat.le_of_ble_eq_true rfl)) dX12_term_72 ⟨(Nat.le_of_ble_eq_true rfl), (Nat.le_of_ble_eq_true rfl)⟩) (fun r_490 L_486 f_487 H_488 locs hp_489 hw => ?_)
                obtain ⟨en_491, en_492, en_493, hWF, kp_494, fk_495⟩ := hp_489
                have cq_496 := cdv_k hG Tu kp_494 fk_495 (by decide)
                have hFK := hFK.trans fk_495 (by decide)
                have hKP := hKP.trans kp_494 (by decide) (by decide)
                obtain ⟨v_497, hr_498⟩ := fk_3 hWF Tu fk_495 hr_464
                have tq_499 := mi_row hr_498 2 rfl
                have tq_500 := mi_row hr_498 3 rfl
                have bv_497 := wf_free v_497
                have tq_501 := mi_row hr_498 4 rfl
                have bv_462 := wf_free v_462
                have tq_502 := mi_row hr_498 5 rfl
                have bv_463 := wf_free v_463
                have tq_503 := mi_row hr_498 14 rfl
                have hTR := hTR.kp hG Tu kp_494 fk_495 (by decide) (fun q => by omega)
                have br_490 := wf_free r_490
                refine lv_goto (tgt := 79) G0.1 G0.2.1 dX12_term_75 (by decide) ?_
                refine lv_istore_n (lv' := [(1, .int r_490), (0, .ref u)]) G0.1 G0.2.1 dX12_term_79 rfl hl (by decide) rfl (fun ls hl => ?_)
                refine lv_goto (tgt := 21) G0.1 G0.2.1 dX12_term_80 (by decide) ?_
                exact ih_21 ((mi f u 2 - mi f_487 u 3).toNat) (by omega) r_490 L_486 f_487 _ _ ls rfl hWF hKP hFK hTR (by first | omega | (intros; omega)) (by first | omega | (intros; omega)) (by first | omega | (intros; omega)) (by first | omega | (intros; omega)) hw (lv_sub hl [0, 1] rfl)
            refine lv_icmp_ne (tgt := 58) G0.1 G0.2.1 dX12_term_51 (by decide) (fun c_504 => ?_) (fun c_504 => ?_)
            · skip
              have tc_504 := ti_ne c_504
              refine lv_iconst (v := 5) G0.1 G0.2.1 dX12_term_58 (by decide) ?_
              exact jn_59 5 _ _ ls ⟨by omega, by omega⟩ hw (lv_sub hl [0, 1] rfl)
            · skip
              have tc_504 := ti_eq c_504
              refine lv_iconst (v := 4) G0.1 G0.2.1 dX12_term_54 (by decide) ?_
              refine lv_goto (tgt := 59) G0.1 G0.2.1 dX12_term_55 (by decide) ?_
              exact jn_59 4 _ _ ls ⟨by omega, by omega⟩ hw (lv_sub hl [0, 1] rfl)
    exact lo_21 _ r_278 L_274 f_275 _ _ ls rfl hWF hKP hFK hTR (by first | omega | (intros; omega)) (by first | omega | (intros; omega)) (by first | omega | (intros; omega)) (by first | omega | (intros; omega)) hw (lv_sub hl [0, 1] rfl)
