set_option maxHeartbeats 4000000 in
set_option maxRecDepth 100000 in
theorem c_X12_clause (l : Launch) (E : py_E) (G : wf_G) (L : List Nat) (f : py_F) (sz : Nat) (u : Nat) (gb : rs_B) (nb : Int) (pb : Int) (hG : GT G) (hWF : WF E G L f) (Tu : G.1 u = 13) (hp0 : mi f u 4 = -1 ∧ mi f u 5 = 0 ∧ 0 ≤ mi f u 3 ∧ mi f u 3 ≤ mi f u 2 ∧ cdv f G u ≤ mi f u 3 ∧ 2 * clv f G u ≤ mi f u 3) (hp1 : mi f u 2 = nb ∧ mi f u 3 = pb) (hq0 : AG f (G.2 u 1) gb nb) : Met l yX12_clause w_X12_clause ({ frames := 67, cells := 0, slots := 0, locals := 3680 }) (py_Pc E [.ref u] L f sz) (py_Qv E L f sz (fun L1 f1 => (mi f u 3 + 2 ≤ mi f1 u 3 ∧ cdv f1 G u ≤ mi f1 u 3 ∧ mi f1 u 3 ≤ 170) ∧ (mi f1 u 4 = -1 → mi f1 u 5 = 0 ∧ mi f1 u 3 ≤ mi f u 2 ∧ clv f1 G u = clv f G u + 1) ∧ (clv f1 G u = clv f G u ∨ clv f1 G u = clv f G u + 1) ∧ (CX f f1 G u) ∧ (mi f1 u 4 = -1 → CO f1 G u (mi f u 14) (90 * mi f u 14 + clv f G u) ∧ arz f1 (G.2 u 12) (90 * mi f u 14 + clv f G u) ≤ cdv f1 G u) ∧ (mi f1 u 4 = -1 → (rs_ca gb nb pb).1 ≠ 0 ∧ mi f1 u 3 = (rs_ca gb nb pb).2) ∧ (mi f1 u 4 ≠ -1 → (rs_ca gb nb pb).1 = 0 ∧ mi f1 u 4 = (rs_ca gb nb pb).2) ∧ WF E G L1 f1 ∧ KP G [41, 42, 43, 44, 45, 46, 47, 13] false f f1 ∧ FK [3, 4, 5] f f1 u)) 0 0 (va_A (va_pl L f) sz) := by
  refine Met.ofW (cc := cX12_clause) (maxL := 3) (ret := none) (by decide) rfl ?_
  intro p e s m args below meth c s₁ B hml hv
  obtain ⟨rfl, rfl, hw⟩ := py_start hv
  have G0 : CallFix p m c cX12_clause 3 s _ w_X12_clause RX12 := ⟨B.exec, B.bytes, hml, findClass_of_methodNamed B.named, atoms_spec (ws := w_X12_clause) B.pre⟩
  have hr := B.returns
  have hlk := B.notSynchronized
  have kcm1 : (-1 : Int32).toInt = -1 := rfl
  have kc0 : (0 : Int32).toInt = 0 := rfl
  have kc1 : (1 : Int32).toInt = 1 := rfl
  have kc33 : (33 : Int32).toInt = 33 := rfl
  have kc40 : (40 : Int32).toInt = 40 := rfl
  have kc58 : (58 : Int32).toInt = 58 := rfl
  have kc63 : (63 : Int32).toInt = 63 := rfl
  have kc90 : (90 : Int32).toInt = 90 := rfl
  have kc121 : (121 : Int32).toInt = 121 := rfl
  have hl := lv_entry ([.ref u]) (n := 3) (Nat.le_of_ble_eq_true rfl)
  rw [lg_entry_eq]
  generalize (lg_sl ([.ref u]) ++ List.replicate (3 - (lg_sl ([.ref u])).length) Slot.unset).toArray = ls at hl ⊢
  have hl : lv_has ls 3 [(0, .ref u)] := hl
  have hFK : FK [3, 4, 5] f f u := FK.refl
  have hKP : KP G [41, 42, 43, 44, 45, 46, 47, 13] false f f := KP.refl
  have hX9 : AX f f (G.2 u 9) (mi f u 14) := AX.refl
  have hX10 : AX f f (G.2 u 10) (90 * mi f u 14 + clv f G u) := AX.refl
  have hX11 : AX f f (G.2 u 11) (90 * mi f u 14 + clv f G u) := AX.refl
  have hX12 : AX f f (G.2 u 12) (90 * mi f u 14 + clv f G u) := AX.refl
  have hMB := hq0
  have hg1 := rs_sk_ge gb nb pb
  have hg2 := rs_sk_ge gb nb (rs_sk gb nb pb + 1)
  obtain ⟨v_1, v_2, v_3, v_4, v_5, v_6, v_7, v_8, v_9, v_10, v_11, v_12, y_13, v_14, v_15, v_16, v_17, v_18, y_19, v_20, y_21, v_22, hr_35, b_23, b_24, b_25, b_26, b_27, b_28, b_29, b_30, b_31, b_32, b_33, b_34⟩ := wg_12 hWF Tu
  have tq_36 := mi_row hr_35 2 rfl
  have tq_37 := mi_row hr_35 3 rfl
  have bv_3 := wf_free v_3
  have tq_38 := mi_row hr_35 4 rfl
  have bv_4 := wf_free v_4
  have tq_39 := mi_row hr_35 5 rfl
  have bv_5 := wf_free v_5
  have tq_40 := mi_row hr_35 14 rfl
  have hcd := cdv_rng hG hWF Tu (by omega) (by omega)
  have hck := clv_rng hG hWF Tu (by omega) (by omega)
  have hTR : TR f f G u (80) 0 0 := TR.refl (by omega) (by omega)
  refine lv_bipush (v := 90) G0.1 G0.2.1 dX12_clause_0 (by decide) ?_
  refine lv_aload_n G0.1 G0.2.1 dX12_clause_2 rfl (lv_at hl 0 rfl) ?_
  refine py_get (C := RX12) (T := TX12) (N := 54) (k := 14) (v := .int v_7) G0 hw in_X12_clause_X12 rfl hr_35 (by decide) (by decide +kernel) rfl dX12_clause_3 ?_
  refine lv_imul G0.1 G0.2.1 dX12_clause_6 ?_
  refine lv_topi (fun x_41 ex_41 => ?_)
  first | have tx_41 := ti_muld ex_41 kc90 (by omega -splitDisjunctions) (by omega -splitDisjunctions) | skip
  refine lv_aload_n G0.1 G0.2.1 dX12_clause_7 rfl (lv_at hl 0 rfl) ?_
  refine py_get (C := RX12) (T := TX12) (N := 54) (k := 9) (v := .ref (G.2 u 9)) G0 hw in_X12_clause_X12 rfl hr_35 (by decide) (by decide +kernel) rfl dX12_clause_8 ?_
  refine lv_aload_n G0.1 G0.2.1 dX12_clause_11 rfl (lv_at hl 0 rfl) ?_
  refine py_get (C := RX12) (T := TX12) (N := 54) (k := 14) (v := .int v_7) G0 hw in_X12_clause_X12 rfl hr_35 (by decide) (by decide +kernel) rfl dX12_clause_12 ?_
  obtain ⟨g_42, ha_43, hi_44⟩ := wf_arr (n := 5) (lo := 0) (hi := 90) hWF (wt12_9 hG Tu) (by decide) (fun _ => rfl)
  have rg_45 : vp_in v_7 5 := ti_in (by omega) (by omega)
  refine py_iald G0 hw ha_43 rg_45 dX12_clause_15 ?_
  refine lv_topi (fun x_46 ex_46 => ?_)
  have bx_46 := ti_at hi_44 rg_45 ex_46
  have zx_46 := arz_ld ha_43 ex_46
  have hkxx_46 := clv_ld hr_35 rfl ha_43 ex_46
  refine lv_iadd G0.1 G0.2.1 dX12_clause_16 ?_
  refine lv_topi (fun x_47 ex_47 => ?_)
  first | have tx_47 := ti_add ex_47 (by omega -splitDisjunctions) (by omega -splitDisjunctions) | skip
  refine lv_istore_n (lv' := [(1, .int x_47), (0, .ref u)]) G0.1 G0.2.1 dX12_clause_17 rfl hl (by decide) rfl (fun ls hl => ?_)
  refine lv_aload_n G0.1 G0.2.1 dX12_clause_18 rfl (lv_at hl 1 rfl) ?_
  refine py_get (C := RX12) (T := TX12) (N := 54) (k := 4) (v := .int v_4) G0 hw in_X12_clause_X12 rfl hr_35 (by decide) (by decide +kernel) rfl dX12_clause_19 ?_
  refine lv_iconst (v := (-1)) G0.1 G0.2.1 dX12_clause_22 (by decide) ?_
  have jn_39 : ∀ (L_j39 : List Nat) (f_j39 : py_F) (H_j39 : Heap) (locs : List Loc) (ls : Array Slot), WF E G L_j39 f_j39 → KP G [41, 42, 43, 44, 45, 46, 47, 13] false f f_j39 → AX f f_j39 (G.2 u 9) (mi f u 14) → AX f f_j39 (G.2 u 10) (90 * mi f u 14 + clv f G u) → AX f f_j39 (G.2 u 11) (90 * mi f u 14 + clv f G u) → AX f f_j39 (G.2 u 12) (90 * mi f u 14 + clv f G u) → AG f_j39 (G.2 u 1) gb nb → FK [3, 4, 5] f f_j39 u → TR f f_j39 G u (80) 0 0 → (mi f u 3 + 0 ≤ mi f_j39 u 3 ∧ mi f_j39 u 3 ≤ 160) → (cdv f_j39 G u = cdv f G u ∧ clv f_j39 G u = clv f G u ∧ mi f_j39 u 14 = mi f u 14) → (mi f_j39 u 4 = -1 → mi f_j39 u 3 < mi f u 2) → (mi f_j39 u 5 = 0 ∧ mi f_j39 u 2 = mi f u 2) → ((mi f_j39 u 4 = -1 ∧ mi f_j39 u 3 = rs_sk gb nb pb ∧ rs_v gb nb (rs_sk gb nb pb) = 121) ∨ (mi f_j39 u 4 = rs_sk gb nb pb ∧ rs_v gb nb (rs_sk gb nb pb) ≠ 121)) → py_W E (va_A (va_pl L f) s.heap.size) s L_j39 f_j39 H_j39 locs → lv_has ls 3 [(1, .int x_47), (0, .ref u)] → W p l e (headSpec w_X12_clause ({ frames := 67, cells := 0, slots := 0, locals := 3680 })).room s m ([.ref u] : List Value).toArray below meth c H_j39 locs 0 0 (MQ below (py_Qv E L f s.heap.size (fun L1 f1 => (mi f u 3 + 2 ≤ mi f1 u 3 ∧ cdv f1 G u ≤ mi f1 u 3 ∧ mi f1 u 3 ≤ 170) ∧ (mi f1 u 4 = -1 → mi f1 u 5 = 0 ∧ mi f1 u 3 ≤ mi f u 2 ∧ clv f1 G u = clv f G u + 1) ∧ (clv f1 G u = clv f G u ∨ clv f1 G u = clv f G u + 1) ∧ (CX f f1 G u) ∧ (mi f1 u 4 = -1 → CO f1 G u (mi f u 14) (90 * mi f u 14 + clv f G u) ∧ arz f1 (G.2 u 12) (90 * mi f u 14 + clv f G u) ≤ cdv f1 G u) ∧ (mi f1 u 4 = -1 → (rs_ca gb nb pb).1 ≠ 0 ∧ mi f1 u 3 = (rs_ca gb nb pb).2) ∧ (mi f1 u 4 ≠ -1 → (rs_ca gb nb pb).1 = 0 ∧ mi f1 u 4 = (rs_ca gb nb pb).2) ∧ WF E G L1 f1 ∧ KP G [41, 42, 43, 44, 45, 46, 47, 13] false f f1 ∧ FK [3, 4, 5] f f1 u)) ([.ref u] : List Value).toArray s 0 0 (va_A (va_pl L f) s.heap.size)) (F0 m 39 ls []) := by
    intro L_j39 f_j39 H_j39 locs ls hWF hKP hX9 hX10 hX11 hX12 hMB hFK hTR jv0 jv1 jv2 jv3 jv4 hw hl
    refine lv_aload_n G0.1 G0.2.1 dX12_clause_39 rfl (lv_at hl 1 rfl) ?_
    refine lv_dup G0.1 G0.2.1 dX12_clause_40 rfl ?_
    obtain ⟨v_48, v_49, v_50, v_51, v_52, v_53, v_54, v_55, v_56, v_57, v_58, v_59, y_60, v_61, v_62, v_63, v_64, v_65, y_66, v_67, y_68, v_69, hr_82, b_70, b_71, b_72, b_73, b_74, b_75, b_76, b_77, b_78, b_79, b_80, b_81⟩ := wg_12 hWF Tu
    have tq_83 := mi_row hr_82 2 rfl
    have tq_84 := mi_row hr_82 3 rfl
    have bv_50 := wf_free v_50
    have tq_85 := mi_row hr_82 4 rfl
    have bv_51 := wf_free v_51
    have tq_86 := mi_row hr_82 5 rfl
    have bv_52 := wf_free v_52
    have tq_87 := mi_row hr_82 14 rfl
    refine py_get (C := RX12) (T := TX12) (N := 54) (k := 3) (v := .int v_50) G0 hw in_X12_clause_X12 rfl hr_82 (by decide) (by decide +kernel) rfl dX12_clause_41 ?_
    refine lv_iconst (v := 1) G0.1 G0.2.1 dX12_clause_44 (by decide) ?_
    refine lv_iadd G0.1 G0.2.1 dX12_clause_45 ?_
    refine lv_topi (fun x_88 ex_88 => ?_)
    first | have tx_88 := ti_add ex_88 (by omega -splitDisjunctions) (by omega -splitDisjunctions) | skip
    refine py_put (C := RX12) (T := TX12) (N := 54) (k := 3) (v := .int x_88) (fs' := [.int v_48, .ref (G.2 u 1), .int v_49, .int x_88, .int v_51, .int v_52, .ref (G.2 u 6), .ref (G.2 u 7), .ref (G.2 u 8), .ref (G.2 u 9), .ref (G.2 u 10), .ref (G.2 u 11), .ref (G.2 u 12), .int v_53, .int v_54, .ref (G.2 u 15), .ref (G.2 u 16), .ref (G.2 u 17), .ref (G.2 u 18), .int v_55, .int v_56, .ref (G.2 u 21), .ref (G.2 u 22), .ref (G.2 u 23), .int v_57, .int v_58, .ref (G.2 u 26), .ref (G.2 u 27), .ref (G.2 u 28), .int v_59, .long y_60, .int v_61, .int v_62, .int v_63, .int v_64, .ref (G.2 u 35), .ref (G.2 u 36), .ref (G.2 u 37), .ref (G.2 u 38), .ref (G.2 u 39), .ref (G.2 u 40), .ref (G.2 u 41), .ref (G.2 u 42), .int v_65, .ref (G.2 u 44), .ref (G.2 u 45), .ref (G.2 u 46), .ref (G.2 u 47), .long y_66, .ref (G.2 u 49), .ref (G.2 u 50), .int v_67, .long y_68, .int v_69]) (ty0 := tyX12) G0 hw tyX12_ok nmX12 in_X12_clause_X12 rfl hr_82 (by decide) (by decide +kernel) rfl rfl rfl rfl (Nat.le_of_ble_eq_true rfl) rfl dX12_clause_46 (fun f_89 H_90 locs h_91 x_92 hw => ?_)
    have hX9 := hX9.same ((x_92 _ (hWF _ (by rw [wt12_9 hG Tu]; decide)).1 (wf_ne (wt12_9 hG Tu) Tu (by decide))).2)
    have hX10 := hX10.same ((x_92 _ (hWF _ (by rw [wt12_10 hG Tu]; decide)).1 (wf_ne (wt12_10 hG Tu) Tu (by decide))).2)
    have hX11 := hX11.same ((x_92 _ (hWF _ (by rw [wt12_11 hG Tu]; decide)).1 (wf_ne (wt12_11 hG Tu) Tu (by decide))).2)
    have hX12 := hX12.same ((x_92 _ (hWF _ (by rw [wt12_12 hG Tu]; decide)).1 (wf_ne (wt12_12 hG Tu) Tu (by decide))).2)
    have hMB := hMB.kp (kp_f (KP.refl.upd hWF x_92 Tu (Or.inl (by decide)) : KP G [13] false f_j39 f_89) (wt12_1 hG Tu) (by decide) (by decide) (fun _ => by decide))
    have hFK := hFK.put hr_82 h_91 3 (by decide) rfl
    have cq_93 := cdv_own (f1 := f_j39) (f2 := f_89) hG hWF Tu x_92 (by have z1 := mi_row hr_82 14 rfl; have z2 := mi_row h_91 14 rfl; omega)
    have hTR := hTR.own hG hWF Tu x_92 (by have z1 := mi_row hr_82 14 rfl; have z2 := mi_row h_91 14 rfl; omega) (by intro q; have z1 := mi_row hr_82 4 rfl; have z2 := mi_row h_91 4 rfl; omega)
    have kq_94 := clv_own (f1 := f_j39) (f2 := f_89) hG hWF Tu x_92 (by have z1 := mi_row hr_82 14 rfl; have z2 := mi_row h_91 14 rfl; omega)
    have hKP := hKP.upd hWF x_92 Tu (Or.inl (by decide))
    have hWF := wf_upd hWF h_91 x_92 (by rw [Tu]; exact ⟨v_48, v_49, x_88, v_51, v_52, v_53, v_54, v_55, v_56, v_57, v_58, v_59, y_60, v_61, v_62, v_63, v_64, v_65, y_66, v_67, y_68, v_69, rfl, ⟨by omega, by omega⟩, ⟨by omega, by omega⟩, ⟨by omega, by omega⟩, ⟨by omega, by omega⟩, ⟨by omega, by omega⟩, ⟨by omega, by omega⟩, ⟨by omega, by omega⟩, ⟨by omega, by omega⟩, ⟨by omega, by omega⟩, ⟨by omega, by omega⟩, ⟨by omega, by omega⟩, ⟨by omega, by omega⟩⟩)
    have tq_95 := mi_row h_91 2 rfl
    have tq_96 := mi_row h_91 3 rfl
    have bx_88 := wf_free x_88
    have tq_97 := mi_row h_91 4 rfl
    have bv_51 := wf_free v_51
    have tq_98 := mi_row h_91 5 rfl
    have bv_52 := wf_free v_52
    have tq_99 := mi_row h_91 14 rfl
    refine lv_aload_n G0.1 G0.2.1 dX12_clause_49 rfl (lv_at hl 1 rfl) ?_
    refine py_get (C := RX12) (T := TX12) (N := 54) (k := 4) (v := .int v_51) G0 hw in_X12_clause_X12 rfl h_91 (by decide) (by decide +kernel) rfl dX12_clause_50 ?_
    refine lv_iconst (v := (-1)) G0.1 G0.2.1 dX12_clause_53 (by decide) ?_
    have jn_70 := ol_X12_clause_70 (l := l) (e := e) (below := below) (E := E) (L := L) (f := f) hG u gb nb pb Tu G0 hr hlk x_47 (by omega) hcd hck hp0 ⟨⟨by omega, by omega⟩, by omega, by omega⟩ (by omega) hg1 hg2
    refine lv_icmp_ne (tgt := 70) G0.1 G0.2.1 dX12_clause_54 (by decide) (fun c_663 => ?_) (fun c_663 => ?_)
    · skip
      have tc_663 := ti_ne c_663
      exact jn_70 L_j39 f_89 _ _ ls hWF hKP hX9 hX10 hX11 hX12 hMB hFK hTR (by first | omega | (intros; omega)) (by first | omega | (intros; omega)) (by first | omega | (intros; omega)) (by first | omega | (intros; omega)) (by first | omega | (intros; omega)) hw (lv_sub hl [0, 1] rfl)
    · skip
      have tc_663 := ti_eq c_663
      refine lv_aload_n G0.1 G0.2.1 dX12_clause_57 rfl (lv_at hl 1 rfl) ?_
      refine py_calli hw (va_runV (As := []) (rest := []) G0 (c_X12_look l E G L_j39 f_89 H_90.size u gb nb (rs_sk gb nb pb + 1) hG hWF Tu (show 0 ≤ mi f_89 u 3 ∧ mi f_89 u 3 ≤ mi f_89 u 2 by omega) (show mi f_89 u 3 = (rs_sk gb nb pb + 1) by omega) (show mi f_89 u 2 = nb ∧ 0 ≤ (rs_sk gb nb pb + 1) by omega) hMB) (cwV 0 G0.2.2.2.2 g_X12_clause_X12_look_146 rfl rfl rfl (by decide +kernel) ⟨(Nat.le_of_ble_eq_true rfl), (Nat.le_of_ble_eq_true rfl)⟩) (py_preV hw (C := RX12) (T := TX12) (N := 54) rfl h_91) rfl rfl hl.1 rfl (lv_room (Nat.le_of_ble_eq_true rfl)) dX12_clause_58 ⟨(Nat.le_of_ble_eq_true rfl), (Nat.le_of_ble_eq_true rfl)⟩) (fun r_668 L_664 f_665 H_666 locs hp_667 hw => ?_)
      obtain ⟨en_669, en_670, en_671, en_672, hWF, kp_673, fk_674⟩ := hp_667
      have hX9 := hX9.same (kp_f kp_673 (wt12_9 hG Tu) (by decide) (by decide) (fun _ => by decide))
      have hX10 := hX10.same (kp_f kp_673 (wt12_10 hG Tu) (by decide) (by decide) (fun _ => by decide))
      have hX11 := hX11.same (kp_f kp_673 (wt12_11 hG Tu) (by decide) (by decide) (fun _ => by decide))
      have hX12 := hX12.same (kp_f kp_673 (wt12_12 hG Tu) (by decide) (by decide) (fun _ => by decide))
      have hMB := hMB.kp (kp_f kp_673 (wt12_1 hG Tu) (by decide) (by decide) (fun _ => by decide))
      have cq_675 := cdv_k hG Tu kp_673 fk_674 (by decide)
      have kq_676 := clv_k hG Tu kp_673 fk_674 (by decide)
      have hFK := hFK.trans fk_674 (by decide)
      have hKP := hKP.trans kp_673 (by decide) (by decide)
      obtain ⟨v_677, hr_678⟩ := fk_3 hWF Tu fk_674 h_91
      have tq_679 := mi_row hr_678 2 rfl
      have tq_680 := mi_row hr_678 3 rfl
      have bv_677 := wf_free v_677
      have tq_681 := mi_row hr_678 4 rfl
      have bv_51 := wf_free v_51
      have tq_682 := mi_row hr_678 5 rfl
      have bv_52 := wf_free v_52
      have tq_683 := mi_row hr_678 14 rfl
      have hTR := hTR.kp hG Tu kp_673 fk_674 (by decide) (fun q => by omega)
      have br_668 := wf_free r_668
      refine lv_bipush (v := 58) G0.1 G0.2.1 dX12_clause_61 (by decide) ?_
      refine lv_icmp_eq (tgt := 70) G0.1 G0.2.1 dX12_clause_63 (by decide) (fun c_684 => ?_) (fun c_684 => ?_)
      · skip
        have tc_684 := ti_eq c_684
        replace en_670 := en_670 (by omega)
        exact jn_70 L_664 f_665 _ _ ls hWF hKP hX9 hX10 hX11 hX12 hMB hFK hTR (by first | omega | (intros; omega)) (by first | omega | (intros; omega)) (by first | omega | (intros; omega)) (by first | omega | (intros; omega)) (by first | omega | (intros; omega)) hw (lv_sub hl [0, 1] rfl)
      · skip
        have tc_684 := ti_ne c_684
        refine lv_aload_n G0.1 G0.2.1 dX12_clause_66 rfl (lv_at hl 1 rfl) ?_
        refine py_callv hw (va_runV (As := []) (rest := []) G0 (c_X12_bad l E G L_664 f_665 H_666.size u hG hWF Tu (show 0 ≤ mi f_665 u 3 by omega)) (cwV 0 G0.2.2.2.2 g_X12_clause_X12_bad_143 rfl rfl rfl (by decide +kernel) ⟨(Nat.le_of_ble_eq_true rfl), (Nat.le_of_ble_eq_true rfl)⟩) (py_preV hw (C := RX12) (T := TX12) (N := 54) rfl hr_678) rfl rfl hl.1 rfl (lv_room (Nat.le_of_ble_eq_true rfl)) dX12_clause_67 ⟨(Nat.le_of_ble_eq_true rfl), (Nat.le_of_ble_eq_true rfl)⟩) (fun L_685 f_686 H_687 locs hp_688 hw => ?_)
        obtain ⟨en_690, en_691, en_692, hWF, kp_693, fk_694⟩ := hp_688
        have hX9 := hX9.same (kp_f kp_693 (wt12_9 hG Tu) (by decide) (by decide) (fun _ => by decide))
        have hX10 := hX10.same (kp_f kp_693 (wt12_10 hG Tu) (by decide) (by decide) (fun _ => by decide))
        have hX11 := hX11.same (kp_f kp_693 (wt12_11 hG Tu) (by decide) (by decide) (fun _ => by decide))
        have hX12 := hX12.same (kp_f kp_693 (wt12_12 hG Tu) (by decide) (by decide) (fun _ => by decide))
        have hMB := hMB.kp (kp_f kp_693 (wt12_1 hG Tu) (by decide) (by decide) (fun _ => by decide))
        have cq_695 := cdv_k hG Tu kp_693 fk_694 (by decide)
        have kq_696 := clv_k hG Tu kp_693 fk_694 (by decide)
        have hFK := hFK.trans fk_694 (by decide)
        have hKP := hKP.trans kp_693 (by decide) (by decide)
        obtain ⟨v_697, hr_698⟩ := fk_4 hWF Tu fk_694 hr_678
        have tq_699 := mi_row hr_698 2 rfl
        have tq_700 := mi_row hr_698 3 rfl
        have bv_677 := wf_free v_677
        have tq_701 := mi_row hr_698 4 rfl
        have bv_697 := wf_free v_697
        have tq_702 := mi_row hr_698 5 rfl
        have bv_52 := wf_free v_52
        have tq_703 := mi_row hr_698 14 rfl
        have hTR := hTR.kp hG Tu kp_693 fk_694 (by decide) (fun q => by omega)
        exact jn_70 L_685 f_686 _ _ ls hWF hKP hX9 hX10 hX11 hX12 hMB hFK hTR (by first | omega | (intros; omega)) (by first | omega | (intros; omega)) (by first | omega | (intros; omega)) (by first | omega | (intros; omega)) (by first | omega | (intros; omega)) hw (lv_sub hl [0, 1] rfl)
  refine lv_icmp_ne (tgt := 39) G0.1 G0.2.1 dX12_clause_23 (by decide) (fun c_704 => ?_) (fun c_704 => ?_)
  · skip
    have tc_704 := ti_ne c_704
    exfalso; omega
  · skip
    have tc_704 := ti_eq c_704
    refine lv_aload_n G0.1 G0.2.1 dX12_clause_26 rfl (lv_at hl 1 rfl) ?_
    refine py_calli hw (va_runV (As := []) (rest := []) G0 (c_X12_look l E G L f s.heap.size u gb nb pb hG hWF Tu (show 0 ≤ mi f u 3 ∧ mi f u 3 ≤ mi f u 2 by omega) (show mi f u 3 = pb by omega) (show mi f u 2 = nb ∧ 0 ≤ pb by omega) hMB) (cwV 0 G0.2.2.2.2 g_X12_clause_X12_look_146 rfl rfl rfl (by decide +kernel) ⟨(Nat.le_of_ble_eq_true rfl), (Nat.le_of_ble_eq_true rfl)⟩) (py_preV hw (C := RX12) (T := TX12) (N := 54) rfl hr_35) rfl rfl hl.1 rfl (lv_room (Nat.le_of_ble_eq_true rfl)) dX12_clause_27 ⟨(Nat.le_of_ble_eq_true rfl), (Nat.le_of_ble_eq_true rfl)⟩) (fun r_709 L_705 f_706 H_707 locs hp_708 hw => ?_)
    obtain ⟨en_710, en_711, en_712, en_713, hWF, kp_714, fk_715⟩ := hp_708
    have hX9 := hX9.same (kp_f kp_714 (wt12_9 hG Tu) (by decide) (by decide) (fun _ => by decide))
    have hX10 := hX10.same (kp_f kp_714 (wt12_10 hG Tu) (by decide) (by decide) (fun _ => by decide))
    have hX11 := hX11.same (kp_f kp_714 (wt12_11 hG Tu) (by decide) (by decide) (fun _ => by decide))
    have hX12 := hX12.same (kp_f kp_714 (wt12_12 hG Tu) (by decide) (by decide) (fun _ => by decide))
    have hMB := hMB.kp (kp_f kp_714 (wt12_1 hG Tu) (by decide) (by decide) (fun _ => by decide))
    have cq_716 := cdv_k hG Tu kp_714 fk_715 (by decide)
    have kq_717 := clv_k hG Tu kp_714 fk_715 (by decide)
    have hFK := hFK.trans fk_715 (by decide)
    have hKP := hKP.trans kp_714 (by decide) (by decide)
    obtain ⟨v_718, hr_719⟩ := fk_3 hWF Tu fk_715 hr_35
    have tq_720 := mi_row hr_719 2 rfl
    have tq_721 := mi_row hr_719 3 rfl
    have bv_718 := wf_free v_718
    have tq_722 := mi_row hr_719 4 rfl
    have bv_4 := wf_free v_4
    have tq_723 := mi_row hr_719 5 rfl
    have bv_5 := wf_free v_5
    have tq_724 := mi_row hr_719 14 rfl
    have ha_43 := kp_at kp_714 hWF (wt12_9 hG Tu) (by decide) (by decide) (by decide) ha_43
    have hTR := hTR.kp hG Tu kp_714 fk_715 (by decide) (fun q => by omega)
    have br_709 := wf_free r_709
    refine lv_bipush (v := 121) G0.1 G0.2.1 dX12_clause_30 (by decide) ?_
    refine lv_icmp_eq (tgt := 39) G0.1 G0.2.1 dX12_clause_32 (by decide) (fun c_725 => ?_) (fun c_725 => ?_)
    · skip
      have tc_725 := ti_eq c_725
      replace en_711 := en_711 (by omega)
      exact jn_39 L_705 f_706 _ _ ls hWF hKP hX9 hX10 hX11 hX12 hMB hFK hTR (by first | omega | (intros; omega)) (by first | omega | (intros; omega)) (by first | omega | (intros; omega)) (by first | omega | (intros; omega)) (by first | omega | (intros; omega)) hw (lv_sub hl [0, 1] rfl)
    · skip
      have tc_725 := ti_ne c_725
      refine lv_aload_n G0.1 G0.2.1 dX12_clause_35 rfl (lv_at hl 1 rfl) ?_
      refine py_callv hw (va_runV (As := []) (rest := []) G0 (c_X12_bad l E G L_705 f_706 H_707.size u hG hWF Tu (show 0 ≤ mi f_706 u 3 by omega)) (cwV 0 G0.2.2.2.2 g_X12_clause_X12_bad_143 rfl rfl rfl (by decide +kernel) ⟨(Nat.le_of_ble_eq_true rfl), (Nat.le_of_ble_eq_true rfl)⟩) (py_preV hw (C := RX12) (T := TX12) (N := 54) rfl hr_719) rfl rfl hl.1 rfl (lv_room (Nat.le_of_ble_eq_true rfl)) dX12_clause_36 ⟨(Nat.le_of_ble_eq_true rfl), (Nat.le_of_ble_eq_true rfl)⟩) (fun L_726 f_727 H_728 locs hp_729 hw => ?_)
      obtain ⟨en_731, en_732, en_733, hWF, kp_734, fk_735⟩ := hp_729
      have hX9 := hX9.same (kp_f kp_734 (wt12_9 hG Tu) (by decide) (by decide) (fun _ => by decide))
      have hX10 := hX10.same (kp_f kp_734 (wt12_10 hG Tu) (by decide) (by decide) (fun _ => by decide))
      have hX11 := hX11.same (kp_f kp_734 (wt12_11 hG Tu) (by decide) (by decide) (fun _ => by decide))
      have hX12 := hX12.same (kp_f kp_734 (wt12_12 hG Tu) (by decide) (by decide) (fun _ => by decide))
      have hMB := hMB.kp (kp_f kp_734 (wt12_1 hG Tu) (by decide) (by decide) (fun _ => by decide))
      have cq_736 := cdv_k hG Tu kp_734 fk_735 (by decide)
      have kq_737 := clv_k hG Tu kp_734 fk_735 (by decide)
      have hFK := hFK.trans fk_735 (by decide)
      have hKP := hKP.trans kp_734 (by decide) (by decide)
      obtain ⟨v_738, hr_739⟩ := fk_4 hWF Tu fk_735 hr_719
      have tq_740 := mi_row hr_739 2 rfl
      have tq_741 := mi_row hr_739 3 rfl
      have bv_718 := wf_free v_718
      have tq_742 := mi_row hr_739 4 rfl
      have bv_738 := wf_free v_738
      have tq_743 := mi_row hr_739 5 rfl
      have bv_5 := wf_free v_5
      have tq_744 := mi_row hr_739 14 rfl
      have ha_43 := kp_at kp_734 hWF (wt12_9 hG Tu) (by decide) (by decide) (by decide) ha_43
      have hTR := hTR.kp hG Tu kp_734 fk_735 (by decide) (fun q => by omega)
      exact jn_39 L_726 f_727 _ _ ls hWF hKP hX9 hX10 hX11 hX12 hMB hFK hTR (by first | omega | (intros; omega)) (by first | omega | (intros; omega)) (by first | omega | (intros; omega)) (by first | omega | (intros; omega)) (by first | omega | (intros; omega)) hw (lv_sub hl [0, 1] rfl)
