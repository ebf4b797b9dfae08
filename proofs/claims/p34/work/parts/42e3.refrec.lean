set_option maxHeartbeats 4000000 in
set_option maxRecDepth 100000 in
theorem q_condition (l : Launch) (E : py_E) (G : wf_G) (hG : GT G) (wb : Int) (hwb : 0 ≤ wb) (fr lo : Nat) (hfr : 10 ≤ fr) (hlo : 300 ≤ lo) (f_unit l_unit : Nat) (x_unit : f_unit ≤ fr) (z_unit : l_unit ≤ lo) (ih_unit : Q_unit l E G wb f_unit l_unit) (f_goOnAnd l_goOnAnd : Nat) (x_goOnAnd : f_goOnAnd ≤ fr) (z_goOnAnd : l_goOnAnd ≤ lo) (ih_goOnAnd : Q_goOnAnd l E G wb f_goOnAnd l_goOnAnd) (f_goOnOr l_goOnOr : Nat) (x_goOnOr : f_goOnOr ≤ fr) (z_goOnOr : l_goOnOr ≤ lo) (ih_goOnOr : Q_goOnOr l E G wb f_goOnOr l_goOnOr) : Q_condition l E G wb (fr + 1) (lo + 60) := by
  intro L f sz u gb nb pb eb hWF Tu hp0 hp1 hp2 hq0
  refine Met.ofW (cc := cX12_condition) (maxL := 1) (ret := none) (by decide) rfl ?_
  intro p e s m args below meth c s₁ B hml hv
  obtain ⟨rfl, rfl, hw⟩ := py_start hv
  have G0 : CallFix p m c cX12_condition 1 s _ w_X12_condition RX12 := ⟨B.exec, B.bytes, hml, findClass_of_methodNamed B.named, atoms_spec (ws := w_X12_condition) B.pre⟩
  have hr := B.returns
  have hlk := B.notSynchronized
  have kcm1 : (-1 : Int32).toInt = -1 := rfl
  have kc0 : (0 : Int32).toInt = 0 := rfl
  have kc1 : (1 : Int32).toInt = 1 := rfl
  have hl := lv_entry ([.ref u]) (n := 1) (Nat.le_of_ble_eq_true rfl)
  rw [lg_entry_eq]
  generalize (lg_sl ([.ref u]) ++ List.replicate (1 - (lg_sl ([.ref u])).length) Slot.unset).toArray = ls at hl ⊢
  have hl : lv_has ls 1 [(0, .ref u)] := hl
  have hKP : KP G [41, 42, 43, 13] false f f := KP.refl
  have hFK : FK [3, 4, 5] f f u := FK.refl
  have hMB := hq0
  obtain ⟨v_1, v_2, v_3, v_4, v_5, v_6, v_7, v_8, v_9, v_10, v_11, v_12, y_13, v_14, v_15, v_16, v_17, v_18, y_19, v_20, y_21, v_22, hr_35, b_23, b_24, b_25, b_26, b_27, b_28, b_29, b_30, b_31, b_32, b_33, b_34⟩ := wg_12 hWF Tu
  have tq_36 := mi_row hr_35 2 rfl
  have tq_37 := mi_row hr_35 3 rfl
  have bv_3 := wf_free v_3
  have tq_38 := mi_row hr_35 4 rfl
  have bv_4 := wf_free v_4
  have tq_39 := mi_row hr_35 5 rfl
  have bv_5 := wf_free v_5
  have tq_40 := mi_row hr_35 14 rfl
  have hcd := cdv_rng hG hWF Tu (by omega) (by omega)
  have hTR : TR f f G u (20 - 2 * wb) 0 0 := TR.refl (by omega) (by omega)
  refine lv_aload_n G0.1 G0.2.1 dX12_condition_0 rfl (lv_at hl 0 rfl) ?_
  refine py_callv hw (va_runV (As := []) (rest := []) G0 (ih_unit L f s.heap.size u gb nb pb eb hWF Tu (show mi f u 4 = -1 ∧ wb ≤ mi f u 5 ∧ mi f u 5 ≤ 6 ∧ 0 ≤ mi f u 3 ∧ mi f u 3 ≤ mi f u 2 ∧ cdv f G u ≤ mi f u 3 by omega) (show mi f u 2 = nb ∧ mi f u 3 = pb by omega) (show mi f u 5 = 6 - ((eb : Nat) : Int) by omega) hMB) (cwV 0 G0.2.2.2.2 g_X12_condition_X12_unit_183 rfl rfl rfl (by decide +kernel) ⟨(show f_unit + 1 ≤ fr + 1 by omega), (show 8 + (2 + 11) + l_unit ≤ lo + 60 by omega)⟩) (py_preV hw (C := RX12) (T := TX12) (N := 54) rfl hr_35) rfl rfl hl.1 rfl (lv_room (Nat.le_of_ble_eq_true rfl)) dX12_condition_1 ⟨(Nat.le_of_ble_eq_true rfl), (Nat.le_of_ble_eq_true rfl)⟩) (fun L_41 f_42 H_43 locs hp_44 hw => ?_)
  obtain ⟨en_46, en_47, en_48, en_49, en_50, hWF, kp_51, fk_52⟩ := hp_44
  have hMB := hMB.kp (kp_f kp_51 (wt12_1 hG Tu) (by decide) (by decide) (fun _ => by decide))
  have hFK := hFK.trans fk_52 (by decide)
  have hKP := hKP.trans kp_51 (by decide) (by decide)
  obtain ⟨v_53, v_54, v_55, hr_56⟩ := fk_3_4_5 hWF Tu fk_52 hr_35
  have tq_57 := mi_row hr_56 2 rfl
  have tq_58 := mi_row hr_56 3 rfl
  have bv_53 := wf_free v_53
  have tq_59 := mi_row hr_56 4 rfl
  have bv_54 := wf_free v_54
  have tq_60 := mi_row hr_56 5 rfl
  have bv_55 := wf_free v_55
  have tq_61 := mi_row hr_56 14 rfl
  have hTR : TR f f_42 G u (20 - 2 * wb) 0 1 := hTR.trans (en_48.lift (b := 0) (by omega) (by omega) (by omega) (by omega)) (fun q => by omega)
  refine lv_aload_n G0.1 G0.2.1 dX12_condition_4 rfl (lv_at hl 0 rfl) ?_
  refine py_callv hw (va_runV (As := []) (rest := []) G0 (ih_goOnAnd L_41 f_42 H_43.size u gb nb eb (rs_un gb nb eb pb) hWF Tu (show (mi f_42 u 4 = -1 → wb ≤ mi f_42 u 5 ∧ mi f_42 u 5 ≤ 6 ∧ mi f_42 u 3 ≤ mi f_42 u 2) ∧ 0 ≤ mi f_42 u 3 ∧ cdv f_42 G u ≤ mi f_42 u 3 by omega) (show mi f_42 u 2 = nb by omega) (show mi f_42 u 4 = -1 → mi f_42 u 5 = 6 - ((eb : Nat) : Int) by omega) (show (mi f_42 u 4 = -1 → (rs_un gb nb eb pb).1 ≠ 0 ∧ mi f_42 u 3 = (rs_un gb nb eb pb).2) ∧ (mi f_42 u 4 ≠ -1 → (rs_un gb nb eb pb).1 = 0 ∧ mi f_42 u 4 = (rs_un gb nb eb pb).2) by omega) hMB) (cwV 0 G0.2.2.2.2 g_X12_condition_X12_goOnAnd_192 rfl rfl rfl (by decide +kernel) ⟨(show f_goOnAnd + 1 ≤ fr + 1 by omega), (show 8 + (1 + 11) + l_goOnAnd ≤ lo + 60 by omega)⟩) (py_preV hw (C := RX12) (T := TX12) (N := 54) rfl hr_56) rfl rfl hl.1 rfl (lv_room (Nat.le_of_ble_eq_true rfl)) dX12_condition_5 ⟨(Nat.le_of_ble_eq_true rfl), (Nat.le_of_ble_eq_true rfl)⟩) (fun L_62 f_63 H_64 locs hp_65 hw => ?_)
  obtain ⟨en_67, en_68, en_69, en_70, en_71, en_72, en_73, hWF, kp_74, fk_75⟩ := hp_65
  have hMB := hMB.kp (kp_f kp_74 (wt12_1 hG Tu) (by decide) (by decide) (fun _ => by decide))
  have hFK := hFK.trans fk_75 (by decide)
  have hKP := hKP.trans kp_74 (by decide) (by decide)
  obtain ⟨v_76, v_77, v_78, hr_79⟩ := fk_3_4_5 hWF Tu fk_75 hr_56
  have tq_80 := mi_row hr_79 2 rfl
  have tq_81 := mi_row hr_79 3 rfl
  have bv_76 := wf_free v_76
  have tq_82 := mi_row hr_79 4 rfl
  have bv_77 := wf_free v_77
  have tq_83 := mi_row hr_79 5 rfl
  have bv_78 := wf_free v_78
  have tq_84 := mi_row hr_79 14 rfl
  have hTR : TR f f_63 G u (20 - 2 * wb) 0 1 := hTR.trans (en_71.lift (b := 0) (by omega) (by omega) (by omega) (by omega)) (fun q => by omega)
  have hE : rs_cd gb nb eb pb = (rs_af (rs_tr gb nb eb) 0 gb nb (rs_af (rs_un gb nb eb) 1 gb nb (rs_un gb nb eb pb))) := rs_cd_eq (fun hx => by rcases Decidable.em (mi f_42 u 4 = -1) with z | z; (have y := en_49 z; have y0 := en_46; omega); exact absurd (en_50 z).1 hx) (fun hx => by rcases Decidable.em (mi f_63 u 4 = -1) with z | z; (have y := en_72 z; have y0 := en_46; have y1 := en_67; omega); exact absurd (en_73 z).1 hx)
  refine lv_aload_n G0.1 G0.2.1 dX12_condition_8 rfl (lv_at hl 0 rfl) ?_
  refine py_callv hw (va_runV (As := []) (rest := []) G0 (ih_goOnOr L_62 f_63 H_64.size u gb nb eb (rs_af (rs_un gb nb eb) 1 gb nb (rs_un gb nb eb pb)) hWF Tu (show (mi f_63 u 4 = -1 → wb ≤ mi f_63 u 5 ∧ mi f_63 u 5 ≤ 6 ∧ mi f_63 u 3 ≤ mi f_63 u 2) ∧ 0 ≤ mi f_63 u 3 ∧ cdv f_63 G u ≤ mi f_63 u 3 by omega) (show mi f_63 u 2 = nb by omega) (show mi f_63 u 4 = -1 → mi f_63 u 5 = 6 - ((eb : Nat) : Int) by omega) (show (mi f_63 u 4 = -1 → (rs_af (rs_un gb nb eb) 1 gb nb (rs_un gb nb eb pb)).1 ≠ 0 ∧ mi f_63 u 3 = (rs_af (rs_un gb nb eb) 1 gb nb (rs_un gb nb eb pb)).2) ∧ (mi f_63 u 4 ≠ -1 → (rs_af (rs_un gb nb eb) 1 gb nb (rs_un gb nb eb pb)).1 = 0 ∧ mi f_63 u 4 = (rs_af (rs_un gb nb eb) 1 gb nb (rs_un gb nb eb pb)).2) by omega) hMB) (cwV 0 G0.2.2.2.2 g_X12_condition_X12_goOnOr_195 rfl rfl rfl (by decide +kernel) ⟨(show f_goOnOr + 1 ≤ fr + 1 by omega), (show 8 + (1 + 11) + l_goOnOr ≤ lo + 60 by omega)⟩) (py_preV hw (C := RX12) (T := TX12) (N := 54) rfl hr_79) rfl rfl hl.1 rfl (lv_room (Nat.le_of_ble_eq_true rfl)) dX12_condition_9 ⟨(Nat.le_of_ble_eq_true rfl), (Nat.le_of_ble_eq_true rfl)⟩) (fun L_85 f_86 H_87 locs hp_88 hw => ?_)
  obtain ⟨en_90, en_91, en_92, en_93, en_94, en_95, en_96, hWF, kp_97, fk_98⟩ := hp_88
  have hMB := hMB.kp (kp_f kp_97 (wt12_1 hG Tu) (by decide) (by decide) (fun _ => by decide))
  have hFK := hFK.trans fk_98 (by decide)
  have hKP := hKP.trans kp_97 (by decide) (by decide)
  obtain ⟨v_99, v_100, v_101, hr_102⟩ := fk_3_4_5 hWF Tu fk_98 hr_79
  have tq_103 := mi_row hr_102 2 rfl
  have tq_104 := mi_row hr_102 3 rfl
  have bv_99 := wf_free v_99
  have tq_105 := mi_row hr_102 4 rfl
  have bv_100 := wf_free v_100
  have tq_106 := mi_row hr_102 5 rfl
  have bv_101 := wf_free v_101
  have tq_107 := mi_row hr_102 14 rfl
  have hTR : TR f f_86 G u (20 - 2 * wb) 0 1 := hTR.trans (en_94.lift (b := 0) (by omega) (by omega) (by omega) (by omega)) (fun q => by omega)
  exact py_vret G0 hr hlk hw ⟨(by first | omega | (intro q; omega)), (by first | omega | (intro q; omega)), hTR, (by rw [hE]; exact en_95), (by rw [hE]; exact en_96), hWF, hKP, hFK⟩ dX12_condition_12
