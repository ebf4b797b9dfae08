set_option maxHeartbeats 4000000 in
set_option maxRecDepth 100000 in
theorem c_X12_clause (l : Launch) (E : py_E) (G : wf_G) (L : List Nat) (f : py_F) (sz : Nat) (u : Nat) (hG : GT G) (hWF : WF E G L f) (Tu : G.1 u = 13) (hp0 : mi f u 4 = -1 ∧ mi f u 5 = 0 ∧ 0 ≤ mi f u 3 ∧ mi f u 3 ≤ mi f u 2 ∧ cdv f G u ≤ mi f u 3 ∧ 2 * clv f G u ≤ mi f u 3) : Met l yX12_clause w_X12_clause ({ frames := 67, cells := 0, slots := 0, locals := 3680 }) (py_Pc E [.ref u] L f sz) (py_Qv E L f sz (fun L1 f1 => (mi f u 3 + 2 ≤ mi f1 u 3 ∧ cdv f1 G u ≤ mi f1 u 3 ∧ mi f1 u 3 ≤ 170) ∧ (mi f1 u 4 = -1 → mi f1 u 5 = 0 ∧ mi f1 u 3 ≤ mi f u 2 ∧ clv f1 G u = clv f G u + 1) ∧ (clv f1 G u = clv f G u ∨ clv f1 G u = clv f G u + 1) ∧ (CX f f1 G u) ∧ (mi f1 u 4 = -1 → CO f1 G u (mi f u 14) (90 * mi f u 14 + clv f G u) ∧ arz f1 (G.2 u 12) (90 * mi f u 14 + clv f G u) ≤ cdv f1 G u) ∧ WF E G L1 f1 ∧ KP G [41, 42, 43, 44, 45, 46, 47, 13] false f f1 ∧ FK [3, 4, 5] f f1 u)) 0 0 (va_A (va_pl L f) sz) := by
  refine Met.ofW (cc := cX12_clause) (maxL := 3) (ret := none) (by decide) rfl ?_
  intro p e s m args below meth c s₁ B hml hv
  obtain ⟨rfl, rfl, hw⟩ := py_start hv
  have G0 : CallFix p m c cX12_clause 3 s _ w_X12_clause RX12 := ⟨B.exec, B.bytes, hml, findClass_of_methodNamed B.named, atoms_spec (ws := w_X12_clause) B.pre⟩
  have hr := B.returns
  have hlk := B.notSynchronized
  have kcm1 : (-1 : Int32).toInt = -1 := rfl
  have kc0 : (0 : Int32).toInt = 0 := rfl
  have kc1 : (1 : Int32).toInt = 1 := rfl
  have kc33 : (33 : Int32).toInt = 33 := rfl
  have kc40 : (40 : Int32).toInt = 40 := rfl
  have kc58 : (58 : Int32).toInt = 58 := rfl
  have kc63 : (63 : Int32).toInt = 63 := rfl
  have kc90 : (90 : Int32).toInt = 90 := rfl
  have kc121 : (121 : Int32).toInt = 121 := rfl
  have hl := lv_entry ([.ref u]) (n := 3) (Nat.le_of_ble_eq_true rfl)
  rw [lg_entry_eq]
  generalize (lg_sl ([.ref u]) ++ List.replicate (3 - (lg_sl ([.ref u])).length) Slot.unset).toArray = ls at hl ⊢
  have hl : lv_has ls 3 [(0, .ref u)] := hl
  have hFK : FK [3, 4, 5] f f u := FK.refl
  have hKP : KP G [41, 42, 43, 44, 45, 46, 47, 13] false f f := KP.refl
  have hX9 : AX f f (G.2 u 9) (mi f u 14) := AX.refl
  have hX10 : AX f f (G.2 u 10) (90 * mi f u 14 + clv f G u) := AX.refl
  have hX11 : AX f f (G.2 u 11) (90 * mi f u 14 + clv f G u) := AX.refl
  have hX12 : AX f f (G.2 u 12) (90 * mi f u 14 + clv f G u) := AX.refl
  obtain ⟨v_1, v_2, v_3, v_4, v_5, v_6, v_7, v_8, v_9, v_10, v_11, v_12, y_13, v_14, v_15, v_16, v_17, v_18, y_19, v_20, y_21, v_22, hr_35, b_23, b_24, b_25, b_26, b_27, b_28, b_29, b_30, b_31, b_32, b_33, b_34⟩ := wg_12 hWF Tu
  have tq_36 := mi_row hr_35 2 rfl
  have tq_37 := mi_row hr_35 3 rfl
  have bv_3 := wf_free v_3
  have tq_38 := mi_row hr_35 4 rfl
  have bv_4 := wf_free v_4
  have tq_39 := mi_row hr_35 5 rfl
  have bv_5 := wf_free v_5
  have tq_40 := mi_row hr_35 14 rfl
  have hcd := cdv_rng hG hWF Tu (by omega) (by omega)
  have hck := clv_rng hG hWF Tu (by omega) (by omega)
  have hTR : TR f f G u (80) 0 0 := TR.refl (by omega) (by omega)
  refine lv_bipush (v := 90) G0.1 G0.2.1 dX12_clause_0 (by decide) ?_
  refine lv_aload_n G0.1 G0.2.1 dX12_clause_2 rfl (lv_at hl 0 rfl) ?_
  refine py_get (C := RX12) (T := TX12) (N := 54) (k := 14) (v := .int v_7) G0 hw in_X12_clause_X12 rfl hr_35 (by decide) (by decide +kernel) rfl dX12_clause_3 ?_
  refine lv_imul G0.1 G0.2.1 dX12_clause_6 ?_
  refine lv_topi (fun x_41 ex_41 => ?_)
  first | have tx_41 := ti_muld ex_41 kc90 (by omega -splitDisjunctions) (by omega -splitDisjunctions) | skip
  refine lv_aload_n G0.1 G0.2.1 dX12_clause_7 rfl (lv_at hl 0 rfl) ?_
  refine py_get (C := RX12) (T := TX12) (N := 54) (k := 9) (v := .ref (G.2 u 9)) G0 hw in_X12_clause_X12 rfl hr_35 (by decide) (by decide +kernel) rfl dX12_clause_8 ?_
  refine lv_aload_n G0.1 G0.2.1 dX12_clause_11 rfl (lv_at hl 0 rfl) ?_
  refine py_get (C := RX12) (T := TX12) (N := 54) (k := 14) (v := .int v_7) G0 hw in_X12_clause_X12 rfl hr_35 (by decide) (by decide +kernel) rfl dX12_clause_12 ?_
  obtain ⟨g_42, ha_43, hi_44⟩ := wf_arr (n := 5) (lo := 0) (hi := 90) hWF (wt12_9 hG Tu) (by decide) (fun _ => rfl)
  have rg_45 : vp_in v_7 5 := ti_in (by omega) (by omega)
  refine py_iald G0 hw ha_43 rg_45 dX12_clause_15 ?_
  refine lv_topi (fun x_46 ex_46 => ?_)
  have bx_46 := ti_at hi_44 rg_45 ex_46
  have zx_46 := arz_ld ha_43 ex_46
  have hkxx_46 := clv_ld hr_35 rfl ha_43 ex_46
  refine lv_iadd G0.1 G0.2.1 dX12_clause_16 ?_
  refine lv_topi (fun x_47 ex_47 => ?_)
  first | have tx_47 := ti_add ex_47 (by omega -splitDisjunctions) (by omega -splitDisjunctions) | skip
  refine lv_istore_n (lv' := [(1, .int x_47), (0, .ref u)]) G0.1 G0.2.1 dX12_clause_17 rfl hl (by decide) rfl (fun ls hl => ?_)
  refine lv_aload_n G0.1 G0.2.1 dX12_clause_18 rfl (lv_at hl 1 rfl) ?_
  refine py_get (C := RX12) (T := TX12) (N := 54) (k := 4) (v := .int v_4) G0 hw in_X12_clause_X12 rfl hr_35 (by decide) (by decide +kernel) rfl dX12_clause_19 ?_
  refine lv_iconst (v := (-1)) G0.1 G0.2.1 dX12_clause_22 (by decide) ?_
  have jn_39 : ∀ (L_j39 : List Nat) (f_j39 : py_F) (H_j39 : Heap) (locs : List Loc) (ls : Array Slot), WF E G L_j39 f_j39 → KP G [41, 42, 43, 44, 45, 46, 47, 13] false f f_j39 → AX f f_j39 (G.2 u 9) (mi f u 14) → AX f f_j39 (G.2 u 10) (90 * mi f u 14 + clv f G u) → AX f f_j39 (G.2 u 11) (90 * mi f u 14 + clv f G u) → AX f f_j39 (G.2 u 12) (90 * mi f u 14 + clv f G u) → FK [3, 4, 5] f f_j39 u → TR f f_j39 G u (80) 0 0 → (mi f u 3 + 0 ≤ mi f_j39 u 3 ∧ mi f_j39 u 3 ≤ 160) → (cdv f_j39 G u = cdv f G u ∧ clv f_j39 G u = clv f G u ∧ mi f_j39 u 14 = mi f u 14) → (mi f_j39 u 4 = -1 → mi f_j39 u 3 < mi f u 2) → (mi f_j39 u 5 = 0 ∧ mi f_j39 u 2 = mi f u 2) → py_W E (va_A (va_pl L f) s.heap.size) s L_j39 f_j39 H_j39 locs → lv_has ls 3 [(1, .int x_47), (0, .ref u)] → W p l e (headSpec w_X12_clause ({ frames := 67, cells := 0, slots := 0, locals := 3680 })).room s m ([.ref u] : List Value).toArray below meth c H_j39 locs 0 0 (MQ below (py_Qv E L f s.heap.size (fun L1 f1 => (mi f u 3 + 2 ≤ mi f1 u 3 ∧ cdv f1 G u ≤ mi f1 u 3 ∧ mi f1 u 3 ≤ 170) ∧ (mi f1 u 4 = -1 → mi f1 u 5 = 0 ∧ mi f1 u 3 ≤ mi f u 2 ∧ clv f1 G u = clv f G u + 1) ∧ (clv f1 G u = clv f G u ∨ clv f1 G u = clv f G u + 1) ∧ (CX f f1 G u) ∧ (mi f1 u 4 = -1 → CO f1 G u (mi f u 14) (90 * mi f u 14 + clv f G u) ∧ arz f1 (G.2 u 12) (90 * mi f u 14 + clv f G u) ≤ cdv f1 G u) ∧ WF E G L1 f1 ∧ KP G [41, 42, 43, 44, 45, 46, 47, 13] false f f1 ∧ FK [3, 4, 5] f f1 u)) ([.ref u] : List Value).toArray s 0 0 (va_A (va_pl L f) s.heap.size)) (F0 m 39 ls []) := by
    intro L_j39 f_j39 H_j39 locs ls hWF hKP hX9 hX10 hX11 hX12 hFK hTR jv0 jv1 jv2 jv3 hw hl
    refine lv_aload_n G0.1 G0.2.1 dX12_clause_39 rfl (lv_at hl 1 rfl) ?_
    refine lv_dup G0.1 G0.2.1 dX12_clause_40 rfl ?_
    obtain ⟨v_48, v_49, v_50, v_51, v_52, v_53, v_54, v_55, v_56, v_57, v_58, v_59, y_60, v_61, v_62, v_63, v_64, v_65, y_66, v_67, y_68, v_69, hr_82, b_70, b_71, b_72, b_73, b_74, b_75, b_76, b_77, b_78, b_79, b_80, b_81⟩ := wg_12 hWF Tu
    have tq_83 := mi_row hr_82 2 rfl
    have tq_84 := mi_row hr_82 3 rfl
    have bv_50 := wf_free v_50
    have tq_85 := mi_row hr_82 4 rfl
    have bv_51 := wf_free v_51
    have tq_86 := mi_row hr_82 5 rfl
    have bv_52 := wf_free v_52
    have tq_87 := mi_row hr_82 14 rfl
    refine py_get (C := RX12) (T := TX12) (N := 54) (k := 3) (v := .int v_50) G0 hw in_X12_clause_X12 rfl hr_82 (by decide) (by decide +kernel) rfl dX12_clause_41 ?_
    refine lv_iconst (v := 1) G0.1 G0.2.1 dX12_clause_44 (by decide) ?_
    refine lv_iadd G0.1 G0.2.1 dX12_clause_45 ?_
    refine lv_topi (fun x_88 ex_88 => ?_)
    first | have tx_88 := ti_add ex_88 (by omega -splitDisjunctions) (by omega -splitDisjunctions) | skip
    refine py_put (C := RX12) (T := TX12) (N := 54) (k := 3) (v := .int x_88) (fs' := [.int v_48, .ref (G.2 u 1), .int v_49, .int x_88, .int v_51, .int v_52, .ref (G.2 u 6), .ref (G.2 u 7), .ref (G.2 u 8), .ref (G.2 u 9), .ref (G.2 u 10), .ref (G.2 u 11), .ref (G.2 u 12), .int v_53, .int v_54, .ref (G.2 u 15), .ref (G.2 u 16), .ref (G.2 u 17), .ref (G.2 u 18), .int v_55, .int v_56, .ref (G.2 u 21), .ref (G.2 u 22), .ref (G.2 u 23), .int v_57, .int v_58, .ref (G.2 u 26), .ref (G.2 u 27), .ref (G.2 u 28), .int v_59, .long y_60, .int v_61, .int v_62, .int v_63, .int v_64, .ref (G.2 u 35), .ref (G.2 u 36), .ref (G.2 u 37), .ref (G.2 u 38), .ref (G.2 u 39), .ref (G.2 u 40), .ref (G.2 u 41), .ref (G.2 u 42), .int v_65, .ref (G.2 u 44), .ref (G.2 u 45), .ref (G.2 u 46), .ref (G.2 u 47), .long y_66, .ref (G.2 u 49), .ref (G.2 u 50), .int v_67, .long y_68, .int v_69]) (ty0 := tyX12) G0 hw tyX12_ok nmX12 in_X12_clause_X12 rfl hr_82 (by decide) (by decide +kernel) rfl rfl rfl rfl (Nat.le_of_ble_eq_true rfl) rfl dX12_clause_46 (fun f_89 H_90 locs h_91 x_92 hw => ?_)
    have hX9 := hX9.same ((x_92 _ (hWF _ (by rw [wt12_9 hG Tu]; decide)).1 (wf_ne (wt12_9 hG Tu) Tu (by decide))).2)
    have hX10 := hX10.same ((x_92 _ (hWF _ (by rw [wt12_10 hG Tu]; decide)).1 (wf_ne (wt12_10 hG Tu) Tu (by decide))).2)
    have hX11 := hX11.same ((x_92 _ (hWF _ (by rw [wt12_11 hG Tu]; decide)).1 (wf_ne (wt12_11 hG Tu) Tu (by decide))).2)
    have hX12 := hX12.same ((x_92 _ (hWF _ (by rw [wt12_12 hG Tu]; decide)).1 (wf_ne (wt12_12 hG Tu) Tu (by decide))).2)
    have hFK := hFK.put hr_82 h_91 3 (by decide) rfl
    have cq_93 := cdv_own (f1 := f_j39) (f2 := f_89) hG hWF Tu x_92 (by have z1 := mi_row hr_82 14 rfl; have z2 := mi_row h_91 14 rfl; omega)
    have hTR := hTR.own hG hWF Tu x_92 (by have z1 := mi_row hr_82 14 rfl; have z2 := mi_row h_91 14 rfl; omega) (by intro q; have z1 := mi_row hr_82 4 rfl; have z2 := mi_row h_91 4 rfl; omega)
    have kq_94 := clv_own (f1 := f_j39) (f2 := f_89) hG hWF Tu x_92 (by have z1 := mi_row hr_82 14 rfl; have z2 := mi_row h_91 14 rfl; omega)
    have hKP := hKP.upd hWF x_92 Tu (Or.inl (by decide))
    have hWF := wf_upd hWF h_91 x_92 (by rw [Tu]; exact ⟨v_48, v_49, x_88, v_51, v_52, v_53, v_54, v_55, v_56, v_57, v_58, v_59, y_60, v_61, v_62, v_63, v_64, v_65, y_66, v_67, y_68, v_69, rfl, ⟨by omega, by omega⟩, ⟨by omega, by omega⟩, ⟨by omega, by omega⟩, ⟨by omega, by omega⟩, ⟨by omega, by omega⟩, ⟨by omega, by omega⟩, ⟨by omega, by omega⟩, ⟨by omega, by omega⟩, ⟨by omega, by omega⟩, ⟨by omega, by omega⟩, ⟨by omega, by omega⟩, ⟨by omega, by omega⟩⟩)
    have tq_95 := mi_row h_91 2 rfl
    have tq_96 := mi_row h_91 3 rfl
    have bx_88 := wf_free x_88
    have tq_97 := mi_row h_91 4 rfl
    have bv_51 := wf_free v_51
    have tq_98 := mi_row h_91 5 rfl
    have bv_52 := wf_free v_52
    have tq_99 := mi_row h_91 14 rfl
    refine lv_aload_n G0.1 G0.2.1 dX12_clause_49 rfl (lv_at hl 1 rfl) ?_
    refine py_get (C := RX12) (T := TX12) (N := 54) (k := 4) (v := .int v_51) G0 hw in_X12_clause_X12 rfl h_91 (by decide) (by decide +kernel) rfl dX12_clause_50 ?_
    refine lv_iconst (v := (-1)) G0.1 G0.2.1 dX12_clause_53 (by decide) ?_
    have jn_70 : ∀ (L_j70 : List Nat) (f_j70 : py_F) (H_j70 : Heap) (locs : List Loc) (ls : Array Slot), WF E G L_j70 f_j70 → KP G [41, 42, 43, 44, 45, 46, 47, 13] false f f_j70 → AX f f_j70 (G.2 u 9) (mi f u 14) → AX f f_j70 (G.2 u 10) (90 * mi f u 14 + clv f G u) → AX f f_j70 (G.2 u 11) (90 * mi f u 14 + clv f G u) → AX f f_j70 (G.2 u 12) (90 * mi f u 14 + clv f G u) → FK [3, 4, 5] f f_j70 u → TR f f_j70 G u (80) 0 0 → (mi f u 3 + 1 ≤ mi f_j70 u 3 ∧ mi f_j70 u 3 ≤ 161) → (cdv f_j70 G u = cdv f G u ∧ clv f_j70 G u = clv f G u ∧ mi f_j70 u 14 = mi f u 14) → (mi f_j70 u 4 = -1 → mi f_j70 u 3 < mi f u 2) → (mi f_j70 u 5 = 0 ∧ mi f_j70 u 2 = mi f u 2) → py_W E (va_A (va_pl L f) s.heap.size) s L_j70 f_j70 H_j70 locs → lv_has ls 3 [(1, .int x_47), (0, .ref u)] → W p l e (headSpec w_X12_clause ({ frames := 67, cells := 0, slots := 0, locals := 3680 })).room s m ([.ref u] : List Value).toArray below meth c H_j70 locs 0 0 (MQ below (py_Qv E L f s.heap.size (fun L1 f1 => (mi f u 3 + 2 ≤ mi f1 u 3 ∧ cdv f1 G u ≤ mi f1 u 3 ∧ mi f1 u 3 ≤ 170) ∧ (mi f1 u 4 = -1 → mi f1 u 5 = 0 ∧ mi f1 u 3 ≤ mi f u 2 ∧ clv f1 G u = clv f G u + 1) ∧ (clv f1 G u = clv f G u ∨ clv f1 G u = clv f G u + 1) ∧ (CX f f1 G u) ∧ (mi f1 u 4 = -1 → CO f1 G u (mi f u 14) (90 * mi f u 14 + clv f G u) ∧ arz f1 (G.2 u 12) (90 * mi f u 14 + clv f G u) ≤ cdv f1 G u) ∧ WF E G L1 f1 ∧ KP G [41, 42, 43, 44, 45, 46, 47, 13] false f f1 ∧ FK [3, 4, 5] f f1 u)) ([.ref u] : List Value).toArray s 0 0 (va_A (va_pl L f) s.heap.size)) (F0 m 70 ls []) := by
      intro L_j70 f_j70 H_j70 locs ls hWF hKP hX9 hX10 hX11 hX12 hFK hTR jv0 jv1 jv2 jv3 hw hl
      refine lv_aload_n G0.1 G0.2.1 dX12_clause_70 rfl (lv_at hl 1 rfl) ?_
      refine lv_dup G0.1 G0.2.1 dX12_clause_71 rfl ?_
      obtain ⟨v_100, v_101, v_102, v_103, v_104, v_105, v_106, v_107, v_108, v_109, v_110, v_111, y_112, v_113, v_114, v_115, v_116, v_117, y_118, v_119, y_120, v_121, hr_134, b_122, b_123, b_124, b_125, b_126, b_127, b_128, b_129, b_130, b_131, b_132, b_133⟩ := wg_12 hWF Tu
      have tq_135 := mi_row hr_134 2 rfl
      have tq_136 := mi_row hr_134 3 rfl
      have bv_102 := wf_free v_102
      have tq_137 := mi_row hr_134 4 rfl
      have bv_103 := wf_free v_103
      have tq_138 := mi_row hr_134 5 rfl
      have bv_104 := wf_free v_104
      have tq_139 := mi_row hr_134 14 rfl
      refine py_get (C := RX12) (T := TX12) (N := 54) (k := 3) (v := .int v_102) G0 hw in_X12_clause_X12 rfl hr_134 (by decide) (by decide +kernel) rfl dX12_clause_72 ?_
      refine lv_iconst (v := 1) G0.1 G0.2.1 dX12_clause_75 (by decide) ?_
      refine lv_iadd G0.1 G0.2.1 dX12_clause_76 ?_
      refine lv_topi (fun x_140 ex_140 => ?_)
      first | have tx_140 := ti_add ex_140 (by omega -splitDisjunctions) (by omega -splitDisjunctions) | skip
      refine py_put (C := RX12) (T := TX12) (N := 54) (k := 3) (v := .int x_140) (fs' := [.int v_100, .ref (G.2 u 1), .int v_101, .int x_140, .int v_103, .int v_104, .ref (G.2 u 6), .ref (G.2 u 7), .ref (G.2 u 8), .ref (G.2 u 9), .ref (G.2 u 10), .ref (G.2 u 11), .ref (G.2 u 12), .int v_105, .int v_106, .ref (G.2 u 15), .ref (G.2 u 16), .ref (G.2 u 17), .ref (G.2 u 18), .int v_107, .int v_108, .ref (G.2 u 21), .ref (G.2 u 22), .ref (G.2 u 23), .int v_109, .int v_110, .ref (G.2 u 26), .ref (G.2 u 27), .ref (G.2 u 28), .int v_111, .long y_112, .int v_113, .int v_114, .int v_115, .int v_116, .ref (G.2 u 35), .ref (G.2 u 36), .ref (G.2 u 37), .ref (G.2 u 38), .ref (G.2 u 39), .ref (G.2 u 40), .ref (G.2 u 41), .ref (G.2 u 42), .int v_117, .ref (G.2 u 44), .ref (G.2 u 45), .ref (G.2 u 46), .ref (G.2 u 47), .long y_118, .ref (G.2 u 49), .ref (G.2 u 50), .int v_119, .long y_120, .int v_121]) (ty0 := tyX12) G0 hw tyX12_ok nmX12 in_X12_clause_X12 rfl hr_134 (by decide) (by decide +kernel) rfl rfl rfl rfl (Nat.le_of_ble_eq_true rfl) rfl dX12_clause_77 (fun f_141 H_142 locs h_143 x_144 hw => ?_)
      have hX9 := hX9.same ((x_144 _ (hWF _ (by rw [wt12_9 hG Tu]; decide)).1 (wf_ne (wt12_9 hG Tu) Tu (by decide))).2)
      have hX10 := hX10.same ((x_144 _ (hWF _ (by rw [wt12_10 hG Tu]; decide)).1 (wf_ne (wt12_10 hG Tu) Tu (by decide))).2)
      have hX11 := hX11.same ((x_144 _ (hWF _ (by rw [wt12_11 hG Tu]; decide)).1 (wf_ne (wt12_11 hG Tu) Tu (by decide))).2)
      have hX12 := hX12.same ((x_144 _ (hWF _ (by rw [wt12_12 hG Tu]; decide)).1 (wf_ne (wt12_12 hG Tu) Tu (by decide))).2)
      have hFK := hFK.put hr_134 h_143 3 (by decide) rfl
      have cq_145 := cdv_own (f1 := f_j70) (f2 := f_141) hG hWF Tu x_144 (by have z1 := mi_row hr_134 14 rfl; have z2 := mi_row h_143 14 rfl; omega)
      have hTR := hTR.own hG hWF Tu x_144 (by have z1 := mi_row hr_134 14 rfl; have z2 := mi_row h_143 14 rfl; omega) (by intro q; have z1 := mi_row hr_134 4 rfl; have z2 := mi_row h_143 4 rfl; omega)
      have kq_146 := clv_own (f1 := f_j70) (f2 := f_141) hG hWF Tu x_144 (by have z1 := mi_row hr_134 14 rfl; have z2 := mi_row h_143 14 rfl; omega)
      have hKP := hKP.upd hWF x_144 Tu (Or.inl (by decide))
      have hWF := wf_upd hWF h_143 x_144 (by rw [Tu]; exact ⟨v_100, v_101, x_140, v_103, v_104, v_105, v_106, v_107, v_108, v_109, v_110, v_111, y_112, v_113, v_114, v_115, v_116, v_117, y_118, v_119, y_120, v_121, rfl, ⟨by omega, by omega⟩, ⟨by omega, by omega⟩, ⟨by omega, by omega⟩, ⟨by omega, by omega⟩, ⟨by omega, by omega⟩, ⟨by omega, by omega⟩, ⟨by omega, by omega⟩, ⟨by omega, by omega⟩, ⟨by omega, by omega⟩, ⟨by omega, by omega⟩, ⟨by omega, by omega⟩, ⟨by omega, by omega⟩⟩)
      have tq_147 := mi_row h_143 2 rfl
      have tq_148 := mi_row h_143 3 rfl
      have bx_140 := wf_free x_140
      have tq_149 := mi_row h_143 4 rfl
      have bv_103 := wf_free v_103
      have tq_150 := mi_row h_143 5 rfl
      have bv_104 := wf_free v_104
      have tq_151 := mi_row h_143 14 rfl
      refine lv_aload_n G0.1 G0.2.1 dX12_clause_80 rfl (lv_at hl 1 rfl) ?_
      refine py_get (C := RX12) (T := TX12) (N := 54) (k := 4) (v := .int v_103) G0 hw in_X12_clause_X12 rfl h_143 (by decide) (by decide +kernel) rfl dX12_clause_81 ?_
      refine lv_iconst (v := (-1)) G0.1 G0.2.1 dX12_clause_84 (by decide) ?_
      refine lv_icmp_eq (tgt := 89) G0.1 G0.2.1 dX12_clause_85 (by decide) (fun c_152 => ?_) (fun c_152 => ?_)
      · skip
        have tc_152 := ti_eq c_152
        refine lv_aload_n G0.1 G0.2.1 dX12_clause_89 rfl (lv_at hl 1 rfl) ?_
        refine py_get (C := RX12) (T := TX12) (N := 54) (k := 10) (v := .ref (G.2 u 10)) G0 hw in_X12_clause_X12 rfl h_143 (by decide) (by decide +kernel) rfl dX12_clause_90 ?_
        refine lv_iload_n G0.1 G0.2.1 dX12_clause_93 rfl (lv_at hl 0 rfl) ?_
        refine lv_aload_n G0.1 G0.2.1 dX12_clause_94 rfl (lv_at hl 1 rfl) ?_
        refine py_get (C := RX12) (T := TX12) (N := 54) (k := 8) (v := .ref (G.2 u 8)) G0 hw in_X12_clause_X12 rfl h_143 (by decide) (by decide +kernel) rfl dX12_clause_95 ?_
        refine lv_aload_n G0.1 G0.2.1 dX12_clause_98 rfl (lv_at hl 1 rfl) ?_
        refine py_get (C := RX12) (T := TX12) (N := 54) (k := 14) (v := .int v_106) G0 hw in_X12_clause_X12 rfl h_143 (by decide) (by decide +kernel) rfl dX12_clause_99 ?_
        obtain ⟨g_153, ha_154, hi_155⟩ := wf_arr (n := 5) (lo := 0) (hi := 340) hWF (wt12_8 hG Tu) (by decide) (fun _ => rfl)
        have rg_156 : vp_in v_106 5 := ti_in (by omega) (by omega)
        refine py_iald G0 hw ha_154 rg_156 dX12_clause_102 ?_
        refine lv_topi (fun x_157 ex_157 => ?_)
        have bx_157 := ti_at hi_155 rg_156 ex_157
        have zx_157 := arz_ld ha_154 ex_157
        have hcxx_157 := cdv_ld h_143 rfl ha_154 ex_157
        obtain ⟨g_158, ha_159, hi_160⟩ := wf_arr (n := 450) (lo := (-2147483648)) (hi := 2147483647) hWF (wt12_10 hG Tu) (by decide) (fun _ => rfl)
        have rg_161 : vp_in x_47 450 := ti_in (by omega) (by omega)
        refine py_iast G0 hw ha_159 rg_161 dX12_clause_103 (fun f_162 H_163 locs h_164 x_165 hw => ?_)
        have hkw : KP G [45] false f_141 f_162 := KP.refl.upd hWF x_165 (wt12_10 hG Tu) (Or.inl (by decide))
        have hX9 := hX9.same ((x_165 _ (hWF _ (by rw [wt12_9 hG Tu]; decide)).1 (wf_ne (wt12_9 hG Tu) (wt12_10 hG Tu) (by decide))).2)
        have hX11 := hX11.same ((x_165 _ (hWF _ (by rw [wt12_11 hG Tu]; decide)).1 (wf_ne (wt12_11 hG Tu) (wt12_10 hG Tu) (by decide))).2)
        have hX12 := hX12.same ((x_165 _ (hWF _ (by rw [wt12_12 hG Tu]; decide)).1 (wf_ne (wt12_12 hG Tu) (wt12_10 hG Tu) (by decide))).2)
        have hFK := hFK.same ((x_165 _ (hWF _ (by rw [Tu]; decide)).1 (wf_ne Tu (wt12_10 hG Tu) (by decide))).2)
        have cq_166 := cdv_kp (f := f_141) (f1 := f_162) (m := u) (x_165 _ (hWF _ (by rw [wt12_8 hG Tu]; decide)).1 (wf_ne (wt12_8 hG Tu) (wt12_10 hG Tu) (by decide))).2 (mi_kp (x_165 u (hWF u (by rw [Tu]; decide)).1 (wf_ne Tu (wt12_10 hG Tu) (by decide))).2 14)
        have kq_167 := clv_kp (f := f_141) (f1 := f_162) (m := u) (x_165 _ (hWF _ (by rw [wt12_9 hG Tu]; decide)).1 (wf_ne (wt12_9 hG Tu) (wt12_10 hG Tu) (by decide))).2 (mi_kp (x_165 u (hWF u (by rw [Tu]; decide)).1 (wf_ne Tu (wt12_10 hG Tu) (by decide))).2 14)
        have hTR := hTR.same (f2 := f_162) (x_165 _ (hWF _ (by rw [wt12_6 hG Tu]; decide)).1 (wf_ne (wt12_6 hG Tu) (wt12_10 hG Tu) (by decide))).2 (x_165 _ (hWF _ (by rw [wt12_7 hG Tu]; decide)).1 (wf_ne (wt12_7 hG Tu) (wt12_10 hG Tu) (by decide))).2 (x_165 _ (hWF _ (by rw [wt12_8 hG Tu]; decide)).1 (wf_ne (wt12_8 hG Tu) (wt12_10 hG Tu) (by decide))).2 (mi_kp (x_165 u (hWF u (by rw [Tu]; decide)).1 (wf_ne Tu (wt12_10 hG Tu) (by decide))).2 14) (fun q => by have hz := mi_kp (x_165 u (hWF u (by rw [Tu]; decide)).1 (wf_ne Tu (wt12_10 hG Tu) (by decide))).2 4; omega)
        have hKP := hKP.upd hWF x_165 (wt12_10 hG Tu) (Or.inl (by decide))
        have hi_168 := wf_inu (k := (x_47 : Int32).toNatClampNeg) (x := x_157) hi_160 (wf_free x_157).1 (wf_free x_157).2
        have hWF := wf_upd hWF h_164 x_165 (by rw [(wt12_10 hG Tu)]; exact ⟨_, rfl, hi_168⟩)
        have h_143 := h_143.ext x_165 (py_ne_arr h_143 ha_159)
        have tq_169 := mi_row h_143 2 rfl
        have tq_170 := mi_row h_143 3 rfl
        have bx_140 := wf_free x_140
        have tq_171 := mi_row h_143 4 rfl
        have bv_103 := wf_free v_103
        have tq_172 := mi_row h_143 5 rfl
        have bv_104 := wf_free v_104
        have tq_173 := mi_row h_143 14 rfl
        have ha_154 := ha_154.ext x_165 (wf_ne (wt12_8 hG Tu) (wt12_10 hG Tu) (by decide))
        have hX10 := hX10.up ha_159 h_164 (by omega) (by omega)
        have hV10 : arz f_162 (G.2 u 10) (90 * mi f u 14 + clv f G u) = cdv f G u := by rw [show (90 * mi f u 14 + clv f G u) = x_47.toInt by omega, (arz_up ha_159 h_164 (by omega)).1]; omega
        refine lv_aload_n G0.1 G0.2.1 dX12_clause_104 rfl (lv_at hl 1 rfl) ?_
        refine py_calli hw (va_runV (As := []) (rest := []) G0 (c_X12_look l E G L_j70 f_162 H_163.size u hG hWF Tu (show 0 ≤ mi f_162 u 3 ∧ mi f_162 u 3 ≤ mi f_162 u 2 by omega)) (cwV 0 G0.2.2.2.2 g_X12_clause_X12_look_146 rfl rfl rfl (by decide +kernel) ⟨(Nat.le_of_ble_eq_true rfl), (Nat.le_of_ble_eq_true rfl)⟩) (py_preV hw (C := RX12) (T := TX12) (N := 54) rfl h_143) rfl rfl hl.1 rfl (lv_room (Nat.le_of_ble_eq_true rfl)) dX12_clause_105 ⟨(Nat.le_of_ble_eq_true rfl), (Nat.le_of_ble_eq_true rfl)⟩) (fun r_178 L_174 f_175 H_176 locs hp_177 hw => ?_)
        obtain ⟨en_179, en_180, en_181, hWF, kp_182, fk_183⟩ := hp_177
        have hX9 := hX9.same (kp_f kp_182 (wt12_9 hG Tu) (by decide) (by decide) (fun _ => by decide))
        have hX10 := hX10.same (kp_f kp_182 (wt12_10 hG Tu) (by decide) (by decide) (fun _ => by decide))
        have hX11 := hX11.same (kp_f kp_182 (wt12_11 hG Tu) (by decide) (by decide) (fun _ => by decide))
        have hX12 := hX12.same (kp_f kp_182 (wt12_12 hG Tu) (by decide) (by decide) (fun _ => by decide))
        have hV10 := (arz_kp (kp_f kp_182 (wt12_10 hG Tu) (by decide) (by decide) (fun _ => by decide)) _).trans hV10
        have cq_184 := cdv_k hG Tu kp_182 fk_183 (by decide)
        have kq_185 := clv_k hG Tu kp_182 fk_183 (by decide)
        have hFK := hFK.trans fk_183 (by decide)
        have hKP := hKP.trans kp_182 (by decide) (by decide)
        obtain ⟨v_186, hr_187⟩ := fk_3 hWF Tu fk_183 h_143
        have tq_188 := mi_row hr_187 2 rfl
        have tq_189 := mi_row hr_187 3 rfl
        have bv_186 := wf_free v_186
        have tq_190 := mi_row hr_187 4 rfl
        have bv_103 := wf_free v_103
        have tq_191 := mi_row hr_187 5 rfl
        have bv_104 := wf_free v_104
        have tq_192 := mi_row hr_187 14 rfl
        have h_164 := kp_at kp_182 hWF (wt12_10 hG Tu) (by decide) (by decide) (by decide) h_164
        have ha_154 := kp_at kp_182 hWF (wt12_8 hG Tu) (by decide) (by decide) (by decide) ha_154
        have hTR := hTR.kp hG Tu kp_182 fk_183 (by decide) (fun q => by omega)
        have br_178 := wf_free r_178
        refine lv_bipush (v := 33) G0.1 G0.2.1 dX12_clause_108 (by decide) ?_
        have jn_127 := ol_X12_clause_127 (l := l) (e := e) (below := below) (E := E) (L := L) (f := f) hG u Tu G0 hr hlk x_47 (by omega) hcd hck hp0 ⟨⟨by omega, by omega⟩, by omega, by omega⟩
        refine lv_icmp_eq (tgt := 122) G0.1 G0.2.1 dX12_clause_110 (by decide) (fun c_681 => ?_) (fun c_681 => ?_)
        · skip
          have tc_681 := ti_eq c_681
          replace en_180 := en_180 (by omega)
          refine lv_iconst (v := 1) G0.1 G0.2.1 dX12_clause_122 (by decide) ?_
          refine lv_goto (tgt := 127) G0.1 G0.2.1 dX12_clause_123 (by decide) ?_
          exact jn_127 1 L_174 f_175 _ _ ls ⟨by omega, by omega⟩ hWF hKP hX9 hX10 hX11 hX12 hFK hTR hV10 (by first | omega | (intros; omega)) (by first | omega | (intros; omega)) (by first | omega | (intros; omega)) hw (lv_sub hl [0, 1] rfl)
        · skip
          have tc_681 := ti_ne c_681
          refine lv_aload_n G0.1 G0.2.1 dX12_clause_113 rfl (lv_at hl 1 rfl) ?_
          refine py_calli hw (va_runV (As := []) (rest := []) G0 (c_X12_look l E G L_174 f_175 H_176.size u hG hWF Tu (show 0 ≤ mi f_175 u 3 ∧ mi f_175 u 3 ≤ mi f_175 u 2 by omega)) (cwV 0 G0.2.2.2.2 g_X12_clause_X12_look_146 rfl rfl rfl (by decide +kernel) ⟨(Nat.le_of_ble_eq_true rfl), (Nat.le_of_ble_eq_true rfl)⟩) (py_preV hw (C := RX12) (T := TX12) (N := 54) rfl hr_187) rfl rfl hl.1 rfl (lv_room (Nat.le_of_ble_eq_true rfl)) dX12_clause_114 ⟨(Nat.le_of_ble_eq_true rfl), (Nat.le_of_ble_eq_true rfl)⟩) (fun r_686 L_682 f_683 H_684 locs hp_685 hw => ?_)
          obtain ⟨en_687, en_688, en_689, hWF, kp_690, fk_691⟩ := hp_685
          have hX9 := hX9.same (kp_f kp_690 (wt12_9 hG Tu) (by decide) (by decide) (fun _ => by decide))
          have hX10 := hX10.same (kp_f kp_690 (wt12_10 hG Tu) (by decide) (by decide) (fun _ => by decide))
          have hX11 := hX11.same (kp_f kp_690 (wt12_11 hG Tu) (by decide) (by decide) (fun _ => by decide))
          have hX12 := hX12.same (kp_f kp_690 (wt12_12 hG Tu) (by decide) (by decide) (fun _ => by decide))
          have hV10 := (arz_kp (kp_f kp_690 (wt12_10 hG Tu) (by decide) (by decide) (fun _ => by decide)) _).trans hV10
          have cq_692 := cdv_k hG Tu kp_690 fk_691 (by decide)
          have kq_693 := clv_k hG Tu kp_690 fk_691 (by decide)
          have hFK := hFK.trans fk_691 (by decide)
          have hKP := hKP.trans kp_690 (by decide) (by decide)
          obtain ⟨v_694, hr_695⟩ := fk_3 hWF Tu fk_691 hr_187
          have tq_696 := mi_row hr_695 2 rfl
          have tq_697 := mi_row hr_695 3 rfl
          have bv_694 := wf_free v_694
          have tq_698 := mi_row hr_695 4 rfl
          have bv_103 := wf_free v_103
          have tq_699 := mi_row hr_695 5 rfl
          have bv_104 := wf_free v_104
          have tq_700 := mi_row hr_695 14 rfl
          have h_164 := kp_at kp_690 hWF (wt12_10 hG Tu) (by decide) (by decide) (by decide) h_164
          have ha_154 := kp_at kp_690 hWF (wt12_8 hG Tu) (by decide) (by decide) (by decide) ha_154
          have hTR := hTR.kp hG Tu kp_690 fk_691 (by decide) (fun q => by omega)
          have br_686 := wf_free r_686
          refine lv_bipush (v := 40) G0.1 G0.2.1 dX12_clause_117 (by decide) ?_
          refine lv_icmp_ne (tgt := 126) G0.1 G0.2.1 dX12_clause_119 (by decide) (fun c_701 => ?_) (fun c_701 => ?_)
          · skip
            have tc_701 := ti_ne c_701
            refine lv_iconst (v := 0) G0.1 G0.2.1 dX12_clause_126 (by decide) ?_
            exact jn_127 0 L_682 f_683 _ _ ls ⟨by omega, by omega⟩ hWF hKP hX9 hX10 hX11 hX12 hFK hTR hV10 (by first | omega | (intros; omega)) (by first | omega | (intros; omega)) (by first | omega | (intros; omega)) hw (lv_sub hl [0, 1] rfl)
          · skip
            have tc_701 := ti_eq c_701
            replace en_688 := en_688 (by omega)
            refine lv_iconst (v := 1) G0.1 G0.2.1 dX12_clause_122 (by decide) ?_
            refine lv_goto (tgt := 127) G0.1 G0.2.1 dX12_clause_123 (by decide) ?_
            exact jn_127 1 L_682 f_683 _ _ ls ⟨by omega, by omega⟩ hWF hKP hX9 hX10 hX11 hX12 hFK hTR hV10 (by first | omega | (intros; omega)) (by first | omega | (intros; omega)) (by first | omega | (intros; omega)) hw (lv_sub hl [0, 1] rfl)
      · skip
        have tc_152 := ti_ne c_152
        exact py_vret G0 hr hlk hw ⟨(by first | omega | (intro q; omega)), (by first | omega | (intro q; omega)), (by first | omega | (intro q; omega)), ⟨hTR.tp, hX10, hX11, hX12, hX9, by omega⟩, (fun hw => by first | exact absurd hw (by omega) | exact ⟨co_a hTR hw (by omega) (by omega) (by omega) (by omega), by omega⟩), hWF, hKP, hFK⟩ dX12_clause_88
    refine lv_icmp_ne (tgt := 70) G0.1 G0.2.1 dX12_clause_54 (by decide) (fun c_702 => ?_) (fun c_702 => ?_)
    · skip
      have tc_702 := ti_ne c_702
      exact jn_70 L_j39 f_89 _ _ ls hWF hKP hX9 hX10 hX11 hX12 hFK hTR (by first | omega | (intros; omega)) (by first | omega | (intros; omega)) (by first | omega | (intros; omega)) (by first | omega | (intros; omega)) hw (lv_sub hl [0, 1] rfl)
    · skip
      have tc_702 := ti_eq c_702
      refine lv_aload_n G0.1 G0.2.1 dX12_clause_57 rfl (lv_at hl 1 rfl) ?_
      refine py_calli hw (va_runV (As := []) (rest := []) G0 (c_X12_look l E G L_j39 f_89 H_90.size u hG hWF Tu (show 0 ≤ mi f_89 u 3 ∧ mi f_89 u 3 ≤ mi f_89 u 2 by omega)) (cwV 0 G0.2.2.2.2 g_X12_clause_X12_look_146 rfl rfl rfl (by decide +kernel) ⟨(Nat.le_of_ble_eq_true rfl), (Nat.le_of_ble_eq_true rfl)⟩) (py_preV hw (C := RX12) (T := TX12) (N := 54) rfl h_91) rfl rfl hl.1 rfl (lv_room (Nat.le_of_ble_eq_true rfl)) dX12_clause_58 ⟨(Nat.le_of_ble_eq_true rfl), (Nat.le_of_ble_eq_true rfl)⟩) (fun r_707 L_703 f_704 H_705 locs hp_706 hw => ?_)
      obtain ⟨en_708, en_709, en_710, hWF, kp_711, fk_712⟩ := hp_706
      have hX9 := hX9.same (kp_f kp_711 (wt12_9 hG Tu) (by decide) (by decide) (fun _ => by decide))
      have hX10 := hX10.same (kp_f kp_711 (wt12_10 hG Tu) (by decide) (by decide) (fun _ => by decide))
      have hX11 := hX11.same (kp_f kp_711 (wt12_11 hG Tu) (by decide) (by decide) (fun _ => by decide))
      have hX12 := hX12.same (kp_f kp_711 (wt12_12 hG Tu) (by decide) (by decide) (fun _ => by decide))
      have cq_713 := cdv_k hG Tu kp_711 fk_712 (by decide)
      have kq_714 := clv_k hG Tu kp_711 fk_712 (by decide)
      have hFK := hFK.trans fk_712 (by decide)
      have hKP := hKP.trans kp_711 (by decide) (by decide)
      obtain ⟨v_715, hr_716⟩ := fk_3 hWF Tu fk_712 h_91
      have tq_717 := mi_row hr_716 2 rfl
      have tq_718 := mi_row hr_716 3 rfl
      have bv_715 := wf_free v_715
      have tq_719 := mi_row hr_716 4 rfl
      have bv_51 := wf_free v_51
      have tq_720 := mi_row hr_716 5 rfl
      have bv_52 := wf_free v_52
      have tq_721 := mi_row hr_716 14 rfl
      have hTR := hTR.kp hG Tu kp_711 fk_712 (by decide) (fun q => by omega)
      have br_707 := wf_free r_707
      refine lv_bipush (v := 58) G0.1 G0.2.1 dX12_clause_61 (by decide) ?_
      refine lv_icmp_eq (tgt := 70) G0.1 G0.2.1 dX12_clause_63 (by decide) (fun c_722 => ?_) (fun c_722 => ?_)
      · skip
        have tc_722 := ti_eq c_722
        replace en_709 := en_709 (by omega)
        exact jn_70 L_703 f_704 _ _ ls hWF hKP hX9 hX10 hX11 hX12 hFK hTR (by first | omega | (intros; omega)) (by first | omega | (intros; omega)) (by first | omega | (intros; omega)) (by first | omega | (intros; omega)) hw (lv_sub hl [0, 1] rfl)
      · skip
        have tc_722 := ti_ne c_722
        refine lv_aload_n G0.1 G0.2.1 dX12_clause_66 rfl (lv_at hl 1 rfl) ?_
        refine py_callv hw (va_runV (As := []) (rest := []) G0 (c_X12_bad l E G L_703 f_704 H_705.size u hG hWF Tu (show 0 ≤ mi f_704 u 3 by omega)) (cwV 0 G0.2.2.2.2 g_X12_clause_X12_bad_143 rfl rfl rfl (by decide +kernel) ⟨(Nat.le_of_ble_eq_true rfl), (Nat.le_of_ble_eq_true rfl)⟩) (py_preV hw (C := RX12) (T := TX12) (N := 54) rfl hr_716) rfl rfl hl.1 rfl (lv_room (Nat.le_of_ble_eq_true rfl)) dX12_clause_67 ⟨(Nat.le_of_ble_eq_true rfl), (Nat.le_of_ble_eq_true rfl)⟩) (fun L_723 f_724 H_725 locs hp_726 hw => ?_)
        obtain ⟨en_728, en_729, hWF, kp_730, fk_731⟩ := hp_726
        have hX9 := hX9.same (kp_f kp_730 (wt12_9 hG Tu) (by decide) (by decide) (fun _ => by decide))
        have hX10 := hX10.same (kp_f kp_730 (wt12_10 hG Tu) (by decide) (by decide) (fun _ => by decide))
        have hX11 := hX11.same (kp_f kp_730 (wt12_11 hG Tu) (by decide) (by decide) (fun _ => by decide))
        have hX12 := hX12.same (kp_f kp_730 (wt12_12 hG Tu) (by decide) (by decide) (fun _ => by decide))
        have cq_732 := cdv_k hG Tu kp_730 fk_731 (by decide)
        have kq_733 := clv_k hG Tu kp_730 fk_731 (by decide)
        have hFK := hFK.trans fk_731 (by decide)
        have hKP := hKP.trans kp_730 (by decide) (by decide)
        obtain ⟨v_734, hr_735⟩ := fk_4 hWF Tu fk_731 hr_716
        have tq_736 := mi_row hr_735 2 rfl
        have tq_737 := mi_row hr_735 3 rfl
        have bv_715 := wf_free v_715
        have tq_738 := mi_row hr_735 4 rfl
        have bv_734 := wf_free v_734
        have tq_739 := mi_row hr_735 5 rfl
        have bv_52 := wf_free v_52
        have tq_740 := mi_row hr_735 14 rfl
        have hTR := hTR.kp hG Tu kp_730 fk_731 (by decide) (fun q => by omega)
        exact jn_70 L_723 f_724 _ _ ls hWF hKP hX9 hX10 hX11 hX12 hFK hTR (by first | omega | (intros; omega)) (by first | omega | (intros; omega)) (by first | omega | (intros; omega)) (by first | omega | (intros; omega)) hw (lv_sub hl [0, 1] rfl)
  refine lv_icmp_ne (tgt := 39) G0.1 G0.2.1 dX12_clause_23 (by decide) (fun c_741 => ?_) (fun c_741 => ?_)
  · skip
    have tc_741 := ti_ne c_741
    exfalso; omega
  · skip
    have tc_741 := ti_eq c_741
    refine lv_aload_n G0.1 G0.2.1 dX12_clause_26 rfl (lv_at hl 1 rfl) ?_
    refine py_calli hw (va_runV (As := []) (rest := []) G0 (c_X12_look l E G L f s.heap.size u hG hWF Tu (show 0 ≤ mi f u 3 ∧ mi f u 3 ≤ mi f u 2 by omega)) (cwV 0 G0.2.2.2.2 g_X12_clause_X12_look_146 rfl rfl rfl (by decide +kernel) ⟨(Nat.le_of_ble_eq_true rfl), (Nat.le_of_ble_eq_true rfl)⟩) (py_preV hw (C := RX12) (T := TX12) (N := 54) rfl hr_35) rfl rfl hl.1 rfl (lv_room (Nat.le_of_ble_eq_true rfl)) dX12_clause_27 ⟨(Nat.le_of_ble_eq_true rfl), (Nat.le_of_ble_eq_true rfl)⟩) (fun r_746 L_742 f_743 H_744 locs hp_745 hw => ?_)
    obtain ⟨en_747, en_748, en_749, hWF, kp_750, fk_751⟩ := hp_745
    have hX9 := hX9.same (kp_f kp_750 (wt12_9 hG Tu) (by decide) (by decide) (fun _ => by decide))
    have hX10 := hX10.same (kp_f kp_750 (wt12_10 hG Tu) (by decide) (by decide) (fun _ => by decide))
    have hX11 := hX11.same (kp_f kp_750 (wt12_11 hG Tu) (by decide) (by decide) (fun _ => by decide))
    have hX12 := hX12.same (kp_f kp_750 (wt12_12 hG Tu) (by decide) (by decide) (fun _ => by decide))
    have cq_752 := cdv_k hG Tu kp_750 fk_751 (by decide)
    have kq_753 := clv_k hG Tu kp_750 fk_751 (by decide)
    have hFK := hFK.trans fk_751 (by decide)
    have hKP := hKP.trans kp_750 (by decide) (by decide)
    obtain ⟨v_754, hr_755⟩ := fk_3 hWF Tu fk_751 hr_35
    have tq_756 := mi_row hr_755 2 rfl
    have tq_757 := mi_row hr_755 3 rfl
    have bv_754 := wf_free v_754
    have tq_758 := mi_row hr_755 4 rfl
    have bv_4 := wf_free v_4
    have tq_759 := mi_row hr_755 5 rfl
    have bv_5 := wf_free v_5
    have tq_760 := mi_row hr_755 14 rfl
    have ha_43 := kp_at kp_750 hWF (wt12_9 hG Tu) (by decide) (by decide) (by decide) ha_43
    have hTR := hTR.kp hG Tu kp_750 fk_751 (by decide) (fun q => by omega)
    have br_746 := wf_free r_746
    refine lv_bipush (v := 121) G0.1 G0.2.1 dX12_clause_30 (by decide) ?_
    refine lv_icmp_eq (tgt := 39) G0.1 G0.2.1 dX12_clause_32 (by decide) (fun c_761 => ?_) (fun c_761 => ?_)
    · skip
      have tc_761 := ti_eq c_761
      replace en_748 := en_748 (by omega)
      exact jn_39 L_742 f_743 _ _ ls hWF hKP hX9 hX10 hX11 hX12 hFK hTR (by first | omega | (intros; omega)) (by first | omega | (intros; omega)) (by first | omega | (intros; omega)) (by first | omega | (intros; omega)) hw (lv_sub hl [0, 1] rfl)
    · skip
      have tc_761 := ti_ne c_761
      refine lv_aload_n G0.1 G0.2.1 dX12_clause_35 rfl (lv_at hl 1 rfl) ?_
      refine py_callv hw (va_runV (As := []) (rest := []) G0 (c_X12_bad l E G L_742 f_743 H_744.size u hG hWF Tu (show 0 ≤ mi f_743 u 3 by omega)) (cwV 0 G0.2.2.2.2 g_X12_clause_X12_bad_143 rfl rfl rfl (by decide +kernel) ⟨(Nat.le_of_ble_eq_true rfl), (Nat.le_of_ble_eq_true rfl)⟩) (py_preV hw (C := RX12) (T := TX12) (N := 54) rfl hr_755) rfl rfl hl.1 rfl (lv_room (Nat.le_of_ble_eq_true rfl)) dX12_clause_36 ⟨(Nat.le_of_ble_eq_true rfl), (Nat.le_of_ble_eq_true rfl)⟩) (fun L_762 f_763 H_764 locs hp_765 hw => ?_)
      obtain ⟨en_767, en_768, hWF, kp_769, fk_770⟩ := hp_765
      have hX9 := hX9.same (kp_f kp_769 (wt12_9 hG Tu) (by decide) (by decide) (fun _ => by decide))
      have hX10 := hX10.same (kp_f kp_769 (wt12_10 hG Tu) (by decide) (by decide) (fun _ => by decide))
      have hX11 := hX11.same (kp_f kp_769 (wt12_11 hG Tu) (by decide) (by decide) (fun _ => by decide))
      have hX12 := hX12.same (kp_f kp_769 (wt12_12 hG Tu) (by decide) (by decide) (fun _ => by decide))
      have cq_771 := cdv_k hG Tu kp_769 fk_770 (by decide)
      have kq_772 := clv_k hG Tu kp_769 fk_770 (by decide)
      have hFK := hFK.trans fk_770 (by decide)
      have hKP := hKP.trans kp_769 (by decide) (by decide)
      obtain ⟨v_773, hr_774⟩ := fk_4 hWF Tu fk_770 hr_755
      have tq_775 := mi_row hr_774 2 rfl
      have tq_776 := mi_row hr_774 3 rfl
      have bv_754 := wf_free v_754
      have tq_777 := mi_row hr_774 4 rfl
      have bv_773 := wf_free v_773
      have tq_778 := mi_row hr_774 5 rfl
      have bv_5 := wf_free v_5
      have tq_779 := mi_row hr_774 14 rfl
      have ha_43 := kp_at kp_769 hWF (wt12_9 hG Tu) (by decide) (by decide) (by decide) ha_43
      have hTR := hTR.kp hG Tu kp_769 fk_770 (by decide) (fun q => by omega)
      exact jn_39 L_762 f_763 _ _ ls hWF hKP hX9 hX10 hX11 hX12 hFK hTR (by first | omega | (intros; omega)) (by first | omega | (intros; omega)) (by first | omega | (intros; omega)) (by first | omega | (intros; omega)) hw (lv_sub hl [0, 1] rfl)
