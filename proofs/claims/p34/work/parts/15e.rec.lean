set_option maxHeartbeats 4000000 in
set_option maxRecDepth 100000 in
theorem k_chain1 (l : Launch) (E : py_E) (G : wf_G) (hG : GT G) (wb : Int) (hwb : 0 ≤ wb) (fr lo : Nat) (hfr : 10 ≤ fr) (hlo : 300 ≤ lo) (f_unit l_unit : Nat) (x_unit : f_unit ≤ fr) (z_unit : l_unit ≤ lo) (ih_unit : P_unit l E G wb f_unit l_unit) : P_chain1 l E G wb (fr + 1) (lo + 60) := by
  intro L f sz h t i b gb nb pb eb bb hWF Th Tt Bb hp0 hp1 hp2 hp3 hp4 hq0
  refine Met.ofW (cc := cX4_readChain) (maxL := 9) (ret := (some .boolean)) (by decide) rfl ?_
  intro p e s m args below meth c s₁ B hml hv
  obtain ⟨rfl, rfl, hw⟩ := py_start hv
  have G0 : CallFix p m c cX4_readChain 9 s _ w_X4_readChain RX4 := ⟨B.exec, B.bytes, hml, findClass_of_methodNamed B.named, atoms_spec (ws := w_X4_readChain) B.pre⟩
  have hr := B.returns
  have hlk := B.notSynchronized
  have kcm1 : (-1 : Int32).toInt = -1 := rfl
  have kc0 : (0 : Int32).toInt = 0 := rfl
  have kc1 : (1 : Int32).toInt = 1 := rfl
  have kc160 : (160 : Int32).toInt = 160 := rfl
  have hl := lv_entry ([.ref h, .ref t, .int 1, .int i, .int b]) (n := 9) (Nat.le_of_ble_eq_true rfl)
  rw [lg_entry_eq]
  generalize (lg_sl ([.ref h, .ref t, .int 1, .int i, .int b]) ++ List.replicate (9 - (lg_sl ([.ref h, .ref t, .int 1, .int i, .int b])).length) Slot.unset).toArray = ls at hl ⊢
  have hl : lv_has ls 9 [(0, .ref h), (1, .ref t), (2, .int 1), (3, .int i), (4, .int b)] := hl
  have hRP : RP E G f f := RP.refl
  have hKP : KP G [9, 4, 20] false f f := KP.refl
  have hTB := hq0
  refine lv_iconst (v := 0) G0.1 G0.2.1 dX4_readChain_0 (by decide) ?_
  refine lv_istore (lv' := [(5, .int 0), (0, .ref h), (1, .ref t), (2, .int 1), (3, .int i), (4, .int b)]) G0.1 G0.2.1 dX4_readChain_1 hl (by decide) rfl (fun ls hl => ?_)
  refine lv_iconst (v := 0) G0.1 G0.2.1 dX4_readChain_3 (by decide) ?_
  refine lv_istore (lv' := [(6, .int 0), (5, .int 0), (0, .ref h), (1, .ref t), (2, .int 1), (3, .int i), (4, .int b)]) G0.1 G0.2.1 dX4_readChain_4 hl (by decide) rfl (fun ls hl => ?_)
  have lo_6 : ∀ n_6 : Nat, ∀ (v_1 : Int32) (v_2 : Int32) (L_j6 : List Nat) (f_j6 : py_F) (H_j6 : Heap) (locs : List Loc) (ls : Array Slot), (2147483647 - v_1.toInt).toNat = n_6 → (0 ≤ v_1.toInt ∧ v_1.toInt ≤ 2147483647) → WF E G L_j6 f_j6 → RP E G f f_j6 → KP G [9, 4, 20] false f f_j6 → gfn f_j6 (G.2 t 0) = gb → (tp_l f_j6 t = nb) → (pb ≤ tp_a f_j6 t) → (2 * v_1.toInt ≤ tp_a f_j6 t) → (1 ≤ v_1.toInt → tp_a f_j6 t ≤ nb) → (v_1.toInt = 0 → tp_a f_j6 t = pb) → ((1 ≤ v_1.toInt ∨ bb = 0) → (rs_trb gb nb eb bb pb) = rs_lp (rs_un gb nb eb) 1 gb nb (tp_a f_j6 t)) → py_W E (va_A (va_pl L f) s.heap.size) s L_j6 f_j6 H_j6 locs → lv_has ls 9 [(6, .int v_1), (5, .int v_2), (0, .ref h), (1, .ref t), (2, .int 1), (3, .int i), (4, .int b)] → W p l e (headSpec w_X4_readChain ({ frames := fr + 1, cells := 0, slots := 0, locals := lo + 60 })).room s m ([.ref h, .ref t, .int 1, .int i, .int b] : List Value).toArray below meth c H_j6 locs 0 0 (MQ below (py_Qi E L f s.heap.size (fun r L1 f1 => (0 ≤ r.toInt ∧ r.toInt ≤ 1) ∧ (tp_l f1 t = nb) ∧ (pb ≤ tp_a f1 t) ∧ (r.toInt ≠ 0 → pb + 1 ≤ tp_a f1 t ∧ tp_a f1 t ≤ nb) ∧ (r.toInt = (rs_trb gb nb eb bb pb).1 ∧ tp_a f1 t = (rs_trb gb nb eb bb pb).2) ∧ WF E G L1 f1 ∧ RP E G f f1 ∧ KP G [9, 4, 20] false f f1)) ([.ref h, .ref t, .int 1, .int i, .int b] : List Value).toArray s 0 0 (va_A (va_pl L f) s.heap.size)) (F0 m 6 ls []) := by
    intro n_6
    induction n_6 using Nat.strongRecOn with
    | _ n_6 ih_6 =>
      intro v_1 v_2 L_j6 f_j6 H_j6 locs ls hn_6 bv_1 hWF hRP hKP hTB iv0 iv1 iv2 iv3 iv4 iv5 hw hl
      refine lv_iload G0.1 G0.2.1 dX4_readChain_6 (lv_at hl 0 rfl) ?_
      refine lv_sipush (v := 160) G0.1 G0.2.1 dX4_readChain_8 (by decide) ?_
      refine lv_icmp_ge (tgt := 133) G0.1 G0.2.1 dX4_readChain_11 (by decide) (fun c_3 => ?_) (fun c_3 => ?_)
      · skip
        have tc_3 := ti_le c_3
        refine lv_iconst (v := 0) G0.1 G0.2.1 dX4_readChain_133 (by decide) ?_
        have t_4 := wt_8 hG Tt
        obtain ⟨v_5, v_6, v_7, hr_10, b_8, b_9⟩ := wg_8 hWF Tt
        have bv_7 := wf_free v_7
        have tq_11 := tp_eq hr_10
        exact py_iret G0 hr rfl hlk hw ⟨⟨by omega, by omega⟩, (by first | omega | (intro q; omega)), (by first | omega | (intro q; omega)), (by first | omega | (intro q; omega)), (by first | exact rs_eqw (hW.trans (rs_af_0 (by omega))) (by omega) (by omega) | exact rs_eq (hW.trans (rs_af_e (by omega) (by omega))) (by omega) (by omega) | exact False.elim (by omega)), hWF, hRP, hKP⟩ dX4_readChain_134
      · skip
        have tc_3 := ti_nle c_3
        refine lv_iload G0.1 G0.2.1 dX4_readChain_14 (lv_at hl 6 rfl) ?_
        refine lv_if_eq (tgt := 28) G0.1 G0.2.1 dX4_readChain_16 (by decide) (fun c_12 => ?_) (fun c_12 => ?_)
        · skip
          have tc_12 := ti_eq c_12
          refine lv_iconst (v := 0) G0.1 G0.2.1 dX4_readChain_28 (by decide) ?_
          refine lv_istore (lv' := [(7, .int 0), (6, .int v_1), (5, .int v_2), (0, .ref h), (1, .ref t), (2, .int 1), (3, .int i), (4, .int b)]) G0.1 G0.2.1 dX4_readChain_29 hl (by decide) rfl (fun ls hl => ?_)
          refine lv_iload_n G0.1 G0.2.1 dX4_readChain_31 rfl (lv_at hl 5 rfl) ?_
          refine lv_iconst (v := 1) G0.1 G0.2.1 dX4_readChain_32 (by decide) ?_
          refine lv_icmp_ne (tgt := 49) G0.1 G0.2.1 dX4_readChain_33 (by decide) (fun c_13 => ?_) (fun c_13 => ?_)
          · skip
            exact absurd c_13 (by decide)
          · skip
            have tc_13 := ti_eq c_13
            refine lv_aload_n G0.1 G0.2.1 dX4_readChain_36 rfl (lv_at hl 3 rfl) ?_
            refine lv_aload_n G0.1 G0.2.1 dX4_readChain_37 rfl (lv_at hl 4 rfl) ?_
            refine lv_iload_n G0.1 G0.2.1 dX4_readChain_38 rfl (lv_at hl 6 rfl) ?_
            refine lv_iload G0.1 G0.2.1 dX4_readChain_39 (lv_at hl 0 rfl) ?_
            obtain ⟨r_14, hr_16, ty_15⟩ := wg_4 hWF Th
            refine py_calli hw (va_runV (As := [.ref t, .int i, .int 0]) (rest := []) G0 (ih_unit L_j6 f_j6 H_j6.size h t i 0 gb nb (tp_a f_j6 t) eb 0 hWF Th Tt ⟨by omega, by omega⟩ (show wb ≤ i.toInt ∧ i.toInt ≤ 6 by omega) (show (0 : Int32).toInt = 0 by omega) (show i.toInt = 6 - ((eb : Nat) : Int) by omega) (show tp_l f_j6 t = nb ∧ tp_a f_j6 t = (tp_a f_j6 t) by omega) (show 0 ≤ (tp_a f_j6 t) ∧ nb ≤ 160 by omega) hTB) (cwV 3 G0.2.2.2.2 g_X4_readChain_X4_readUnit_54 rfl rfl rfl (by decide +kernel) ⟨(show f_unit + 1 ≤ fr + 1 by omega), (show 8 + (6 + 11) + l_unit ≤ lo + 60 by omega)⟩) (py_preV hw (C := RX4) (T := TX4) (N := 1) rfl hr_16) rfl rfl hl.1 rfl (lv_room (Nat.le_of_ble_eq_true rfl)) dX4_readChain_41 ⟨(Nat.le_of_ble_eq_true rfl), (Nat.le_of_ble_eq_true rfl)⟩) (fun r_21 L_17 f_18 H_19 locs hp_20 hw => ?_)
            obtain ⟨b_26, en_22, en_23, en_24, en_25, hWF, hq_27, kp_28⟩ := hp_20
            have hTB := (gfn_kp (kp_f kp_28 (wt_8 hG Tt) (by decide) (by decide) (fun _ => by decide))).trans hTB
            have hRP := hRP.trans hq_27
            have hKP := hKP.trans kp_28 (by decide) (by decide)
            have hr_16 := kp_at kp_28 hWF Th (by decide) (by decide) (by decide) hr_16
            have hW : (rs_trb gb nb eb bb pb) = rs_af (rs_un gb nb eb) 1 gb nb (rs_unb gb nb eb 0 (tp_a f_j6 t)) := rs_lp_eb (iv5 (by omega)) rs_unb_n (by omega)
            refine lv_istore (lv' := [(8, .int r_21), (7, .int 0), (6, .int v_1), (5, .int v_2), (0, .ref h), (1, .ref t), (2, .int 1), (3, .int i), (4, .int b)]) G0.1 G0.2.1 dX4_readChain_44 hl (by decide) rfl (fun ls hl => ?_)
            refine lv_goto (tgt := 78) G0.1 G0.2.1 dX4_readChain_46 (by decide) ?_
            refine lv_iload G0.1 G0.2.1 dX4_readChain_78 (lv_at hl 0 rfl) ?_
            refine lv_if_ne (tgt := 85) G0.1 G0.2.1 dX4_readChain_80 (by decide) (fun c_29 => ?_) (fun c_29 => ?_)
            · skip
              have tc_29 := ti_ne c_29
              replace en_24 := en_24 (by omega)
              refine lv_iload G0.1 G0.2.1 dX4_readChain_85 (lv_at hl 2 rfl) ?_
              refine lv_if_le (tgt := 100) G0.1 G0.2.1 dX4_readChain_87 (by decide) (fun c_30 => ?_) (fun c_30 => ?_)
              · skip
                have tc_30 := ti_le c_30
                refine lv_aload_n G0.1 G0.2.1 dX4_readChain_100 rfl (lv_at hl 5 rfl) ?_
                have t_31 := wt_8 hG Tt
                obtain ⟨v_32, v_33, v_34, hr_37, b_35, b_36⟩ := wg_8 hWF Tt
                have bv_34 := wf_free v_34
                have tq_38 := tp_eq hr_37
                refine py_calli hw (va_runV (As := []) (rest := []) G0 (c_X8_next l E G L_17 f_18 H_19.size t gb nb ((rs_unb gb nb eb 0 (tp_a f_j6 t))).2 hG hWF Tt (show tp_l f_18 t = nb ∧ tp_a f_18 t = ((rs_unb gb nb eb 0 (tp_a f_j6 t))).2 by omega) (show 0 ≤ ((rs_unb gb nb eb 0 (tp_a f_j6 t))).2 ∧ nb ≤ 160 by omega) hTB) (cwV 0 G0.2.2.2.2 g_X4_readChain_X8_next_35 rfl rfl rfl (by decide +kernel) ⟨(show 0 + 1 ≤ fr + 1 by omega), (show 8 + (1 + 11) + 0 ≤ lo + 60 by omega)⟩) (py_preV hw (C := RX8) (T := TX8) (N := 4) rfl hr_37) rfl rfl hl.1 rfl (lv_room (Nat.le_of_ble_eq_true rfl)) dX4_readChain_101 ⟨(Nat.le_of_ble_eq_true rfl), (Nat.le_of_ble_eq_true rfl)⟩) (fun r_43 L_39 f_40 H_41 locs hp_42 hw => ?_)
                obtain ⟨en_44, en_45, en_46, en_47, en_48, hWF, hq_49, kp_50⟩ := hp_42
                have hTB := (gfn_kp (kp_f kp_50 (wt_8 hG Tt) (by decide) (by decide) (fun _ => by decide))).trans hTB
                have hRP := hRP.trans hq_49
                have hKP := hKP.trans kp_50 (by decide) (by decide)
                have hr_16 := kp_at kp_50 hWF Th (by decide) (by decide) (by decide) hr_16
                have br_43 := wf_free r_43
                refine lv_istore (lv' := [(5, .int r_43), (8, .int r_21), (7, .int 0), (6, .int v_1), (0, .ref h), (1, .ref t), (2, .int 1), (3, .int i), (4, .int b)]) G0.1 G0.2.1 dX4_readChain_104 hl (by decide) rfl (fun ls hl => ?_)
                refine lv_iload G0.1 G0.2.1 dX4_readChain_106 (lv_at hl 0 rfl) ?_
                refine py_calli hw (va_runS (As := [.int r_43]) (rest := []) G0 (c_X4_chainOf l E G L_39 f_40 H_41.size r_43 (rs_v gb nb (rs_sk gb nb ((rs_unb gb nb eb 0 (tp_a f_j6 t))).2)) hG hWF (show r_43.toInt = (rs_v gb nb (rs_sk gb nb ((rs_unb gb nb eb 0 (tp_a f_j6 t))).2)) by omega)) (va_cwS 1 G0.2.2.2.2 g_X4_readChain_X4_chainOf_62 rfl rfl rfl (by decide +kernel) ⟨(show 0 + 1 ≤ fr + 1 by omega), (show 8 + (1 + 11) + 0 ≤ lo + 60 by omega)⟩) (py_preS hw) rfl rfl hl.1 rfl (lv_room (Nat.le_of_ble_eq_true rfl)) dX4_readChain_108 ⟨(Nat.le_of_ble_eq_true rfl), (Nat.le_of_ble_eq_true rfl)⟩) (fun r_55 L_51 f_52 H_53 locs hp_54 hw => ?_)
                obtain ⟨b_58, en_56, en_57, rfl, rfl⟩ := hp_54
                refine lv_iload_n G0.1 G0.2.1 dX4_readChain_111 rfl (lv_at hl 6 rfl) ?_
                refine lv_icmp_eq (tgt := 117) G0.1 G0.2.1 dX4_readChain_112 (by decide) (fun c_59 => ?_) (fun c_59 => ?_)
                · skip
                  have tc_59 := ti_eq c_59
                  replace en_56 := en_56 (by omega)
                  refine lv_aload_n G0.1 G0.2.1 dX4_readChain_117 rfl (lv_at hl 5 rfl) ?_
                  refine lv_dup G0.1 G0.2.1 dX4_readChain_118 rfl ?_
                  obtain ⟨v_60, v_61, v_62, hr_65, b_63, b_64⟩ := wg_8 hWF Tt
                  have bv_62 := wf_free v_62
                  have tq_66 := tp_eq hr_65
                  refine py_get (C := RX8) (T := TX8) (N := 4) (k := 2) (v := .int v_61) G0 hw in_X4_readChain_X8 rfl hr_65 (by decide) (by decide +kernel) rfl dX4_readChain_119 ?_
                  refine lv_iconst (v := 1) G0.1 G0.2.1 dX4_readChain_122 (by decide) ?_
                  refine lv_iadd G0.1 G0.2.1 dX4_readChain_123 ?_
                  refine lv_topi (fun x_67 ex_67 => ?_)
                  first | have tx_67 := ti_add ex_67 (by omega) (by omega) | skip
                  refine py_put (C := RX8) (T := TX8) (N := 4) (k := 2) (v := .int x_67) (fs' := [.ref (G.2 t 0), .int v_60, .int x_67, .int v_62]) (ty0 := tyX8) G0 hw tyX8_ok nmX8 in_X4_readChain_X8 rfl hr_65 (by decide) (by decide +kernel) rfl rfl rfl rfl (Nat.le_of_ble_eq_true rfl) rfl dX4_readChain_124 (fun f_68 H_69 locs h_70 x_71 hw => ?_)
                  have hTB := (gfn_kp (kp_f (KP.refl.upd hWF x_71 Tt (Or.inl (by decide)) : KP G [9] false f_40 f_68) (wt_8 hG Tt) (by decide) (by decide) (fun _ => by decide))).trans hTB
                  have hKP := hKP.upd hWF x_71 Tt (Or.inl (by decide))
                  have hRP := hRP.trans (rp_upd hG hWF x_71 hr_65.2 h_70.2 (rp_code hG Tt (by decide)) rfl)
                  have hWF := wf_upd hWF h_70 x_71 (by rw [Tt]; exact ⟨v_60, x_67, v_62, rfl, ⟨by omega, by omega⟩, ⟨by omega, by omega⟩⟩)
                  have tq_72 := tp_eq h_70
                  have hr_16 := hr_16.ext x_71 (py_ne_kind hr_16 hr_65 (by decide))
                  obtain ⟨x_73, ex_73⟩ : ∃ y : Int32, y = v_1 + 1 := ⟨_, rfl⟩
                  first | have tx_73 := ti_add ex_73 (by omega) (by omega) | skip
                  refine lv_iinc (v := x_73) (lv' := [(6, .int x_73), (5, .int r_43), (8, .int r_21), (7, .int 0), (0, .ref h), (1, .ref t), (2, .int 1), (3, .int i), (4, .int b)]) G0.1 G0.2.1 dX4_readChain_127 hl (k := 3) rfl (show _ + (1 : Int32) = _ from ex_73.symm) (by decide) rfl (fun ls hl => ?_)
                  refine lv_goto (tgt := 6) G0.1 G0.2.1 dX4_readChain_130 (by decide) ?_
                  exact ih_6 ((2147483647 - x_73.toInt).toNat) (by omega) x_73 r_43 L_39 f_68 _ _ ls rfl ⟨by omega, by omega⟩ hWF hRP hKP hTB (by first | omega | (intros; omega)) (by first | omega | (intros; omega)) (by first | omega | (intros; omega)) (by first | omega | (intros; omega)) (by first | omega | (intros; omega)) (fun _ => rs_af_on hW (by omega) (by omega) (by omega) (by omega)) hw (lv_sub hl [0, 1, 4, 5, 6, 7, 8] rfl)
                · skip
                  have tc_59 := ti_ne c_59
                  refine lv_iconst (v := 1) G0.1 G0.2.1 dX4_readChain_115 (by decide) ?_
                  obtain ⟨v_74, v_75, v_76, hr_79, b_77, b_78⟩ := wg_8 hWF Tt
                  have bv_76 := wf_free v_76
                  have tq_80 := tp_eq hr_79
                  exact py_iret G0 hr rfl hlk hw ⟨⟨by omega, by omega⟩, (by first | omega | (intro q; omega)), (by first | omega | (intro q; omega)), (by first | omega | (intro q; omega)), (by first | exact rs_eqw (hW.trans (rs_af_0 (by omega))) (by omega) (by omega) | exact rs_eq (hW.trans (rs_af_e (by omega) (by omega))) (by omega) (by omega) | exact False.elim (by omega)), hWF, hRP, hKP⟩ dX4_readChain_116
              · skip
                have tc_30 := ti_nle c_30
                clear iv4
                refine lv_aload_n G0.1 G0.2.1 dX4_readChain_90 rfl (lv_at hl 4 rfl) ?_
                refine py_get (C := RX4) (T := TX4) (N := 1) (k := 0) (v := .ref r_14) G0 hw in_X4_readChain_X4 rfl hr_16 (by decide) (by decide +kernel) rfl dX4_readChain_91 ?_
                refine lv_iload G0.1 G0.2.1 dX4_readChain_94 (lv_at hl 3 rfl) ?_
                refine lv_iconst (v := 0) G0.1 G0.2.1 dX4_readChain_96 (by decide) ?_
                obtain ⟨t_81, t_82⟩ := wt_3 hG ty_15
                obtain ⟨v_83, hr_85, b_84⟩ := wg_3 hWF ty_15
                have t_86 := wt_8 hG Tt
                obtain ⟨v_87, v_88, v_89, hr_92, b_90, b_91⟩ := wg_8 hWF Tt
                have bv_89 := wf_free v_89
                have tq_93 := tp_eq hr_92
                refine py_callv hw (va_runV (As := [.int v_2, .int 0]) (rest := []) G0 (c_X3_add l E G L_17 f_18 H_19.size r_14 v_2 0 hG hWF ty_15) (cwV 2 G0.2.2.2.2 g_X4_readChain_X3_add_46 rfl rfl rfl (by decide +kernel) ⟨(show 0 + 1 ≤ fr + 1 by omega), (show 8 + (3 + 11) + 0 ≤ lo + 60 by omega)⟩) (py_preV hw (C := RX3) (T := TX3) (N := 3) rfl hr_85) rfl rfl hl.1 rfl (lv_room (Nat.le_of_ble_eq_true rfl)) dX4_readChain_97 ⟨(Nat.le_of_ble_eq_true rfl), (Nat.le_of_ble_eq_true rfl)⟩) (fun L_94 f_95 H_96 locs hp_97 hw => ?_)
                obtain ⟨hWF, hq_99, kp_100⟩ := hp_97
                have hTB := (gfn_kp (kp_f kp_100 (wt_8 hG Tt) (by decide) (by decide) (fun _ => by decide))).trans hTB
                have hRP := hRP.trans hq_99
                have hKP := hKP.trans kp_100 (by decide) (by decide)
                have hr_16 := kp_at kp_100 hWF Th (by decide) (by decide) (by decide) hr_16
                have hr_92 := kp_at kp_100 hWF Tt (by decide) (by decide) (by decide) hr_92
                have tq_101 := tp_eq hr_92
                refine lv_aload_n G0.1 G0.2.1 dX4_readChain_100 rfl (lv_at hl 5 rfl) ?_
                refine py_calli hw (va_runV (As := []) (rest := []) G0 (c_X8_next l E G L_94 f_95 H_96.size t gb nb ((rs_unb gb nb eb 0 (tp_a f_j6 t))).2 hG hWF Tt (show tp_l f_95 t = nb ∧ tp_a f_95 t = ((rs_unb gb nb eb 0 (tp_a f_j6 t))).2 by omega) (show 0 ≤ ((rs_unb gb nb eb 0 (tp_a f_j6 t))).2 ∧ nb ≤ 160 by omega) hTB) (cwV 0 G0.2.2.2.2 g_X4_readChain_X8_next_35 rfl rfl rfl (by decide +kernel) ⟨(show 0 + 1 ≤ fr + 1 by omega), (show 8 + (1 + 11) + 0 ≤ lo + 60 by omega)⟩) (py_preV hw (C := RX8) (T := TX8) (N := 4) rfl hr_92) rfl rfl hl.1 rfl (lv_room (Nat.le_of_ble_eq_true rfl)) dX4_readChain_101 ⟨(Nat.le_of_ble_eq_true rfl), (Nat.le_of_ble_eq_true rfl)⟩) (fun r_106 L_102 f_103 H_104 locs hp_105 hw => ?_)
                obtain ⟨en_107, en_108, en_109, en_110, en_111, hWF, hq_112, kp_113⟩ := hp_105
                have hTB := (gfn_kp (kp_f kp_113 (wt_8 hG Tt) (by decide) (by decide) (fun _ => by decide))).trans hTB
                have hRP := hRP.trans hq_112
                have hKP := hKP.trans kp_113 (by decide) (by decide)
                have hr_16 := kp_at kp_113 hWF Th (by decide) (by decide) (by decide) hr_16
                have br_106 := wf_free r_106
                refine lv_istore (lv' := [(5, .int r_106), (8, .int r_21), (7, .int 0), (6, .int v_1), (0, .ref h), (1, .ref t), (2, .int 1), (3, .int i), (4, .int b)]) G0.1 G0.2.1 dX4_readChain_104 hl (by decide) rfl (fun ls hl => ?_)
                refine lv_iload G0.1 G0.2.1 dX4_readChain_106 (lv_at hl 0 rfl) ?_
                refine py_calli hw (va_runS (As := [.int r_106]) (rest := []) G0 (c_X4_chainOf l E G L_102 f_103 H_104.size r_106 (rs_v gb nb (rs_sk gb nb ((rs_unb gb nb eb 0 (tp_a f_j6 t))).2)) hG hWF (show r_106.toInt = (rs_v gb nb (rs_sk gb nb ((rs_unb gb nb eb 0 (tp_a f_j6 t))).2)) by omega)) (va_cwS 1 G0.2.2.2.2 g_X4_readChain_X4_chainOf_62 rfl rfl rfl (by decide +kernel) ⟨(show 0 + 1 ≤ fr + 1 by omega), (show 8 + (1 + 11) + 0 ≤ lo + 60 by omega)⟩) (py_preS hw) rfl rfl hl.1 rfl (lv_room (Nat.le_of_ble_eq_true rfl)) dX4_readChain_108 ⟨(Nat.le_of_ble_eq_true rfl), (Nat.le_of_ble_eq_true rfl)⟩) (fun r_118 L_114 f_115 H_116 locs hp_117 hw => ?_)
                obtain ⟨b_121, en_119, en_120, rfl, rfl⟩ := hp_117
                refine lv_iload_n G0.1 G0.2.1 dX4_readChain_111 rfl (lv_at hl 6 rfl) ?_
                refine lv_icmp_eq (tgt := 117) G0.1 G0.2.1 dX4_readChain_112 (by decide) (fun c_122 => ?_) (fun c_122 => ?_)
                · skip
                  have tc_122 := ti_eq c_122
                  replace en_119 := en_119 (by omega)
                  refine lv_aload_n G0.1 G0.2.1 dX4_readChain_117 rfl (lv_at hl 5 rfl) ?_
                  refine lv_dup G0.1 G0.2.1 dX4_readChain_118 rfl ?_
                  obtain ⟨v_123, v_124, v_125, hr_128, b_126, b_127⟩ := wg_8 hWF Tt
                  have bv_125 := wf_free v_125
                  have tq_129 := tp_eq hr_128
                  refine py_get (C := RX8) (T := TX8) (N := 4) (k := 2) (v := .int v_124) G0 hw in_X4_readChain_X8 rfl hr_128 (by decide) (by decide +kernel) rfl dX4_readChain_119 ?_
                  refine lv_iconst (v := 1) G0.1 G0.2.1 dX4_readChain_122 (by decide) ?_
                  refine lv_iadd G0.1 G0.2.1 dX4_readChain_123 ?_
                  refine lv_topi (fun x_130 ex_130 => ?_)
                  first | have tx_130 := ti_add ex_130 (by omega) (by omega) | skip
                  refine py_put (C := RX8) (T := TX8) (N := 4) (k := 2) (v := .int x_130) (fs' := [.ref (G.2 t 0), .int v_123, .int x_130, .int v_125]) (ty0 := tyX8) G0 hw tyX8_ok nmX8 in_X4_readChain_X8 rfl hr_128 (by decide) (by decide +kernel) rfl rfl rfl rfl (Nat.le_of_ble_eq_true rfl) rfl dX4_readChain_124 (fun f_131 H_132 locs h_133 x_134 hw => ?_)
                  have hTB := (gfn_kp (kp_f (KP.refl.upd hWF x_134 Tt (Or.inl (by decide)) : KP G [9] false f_103 f_131) (wt_8 hG Tt) (by decide) (by decide) (fun _ => by decide))).trans hTB
                  have hKP := hKP.upd hWF x_134 Tt (Or.inl (by decide))
                  have hRP := hRP.trans (rp_upd hG hWF x_134 hr_128.2 h_133.2 (rp_code hG Tt (by decide)) rfl)
                  have hWF := wf_upd hWF h_133 x_134 (by rw [Tt]; exact ⟨v_123, x_130, v_125, rfl, ⟨by omega, by omega⟩, ⟨by omega, by omega⟩⟩)
                  have tq_135 := tp_eq h_133
                  have hr_16 := hr_16.ext x_134 (py_ne_kind hr_16 hr_128 (by decide))
                  obtain ⟨x_136, ex_136⟩ : ∃ y : Int32, y = v_1 + 1 := ⟨_, rfl⟩
                  first | have tx_136 := ti_add ex_136 (by omega) (by omega) | skip
                  refine lv_iinc (v := x_136) (lv' := [(6, .int x_136), (5, .int r_106), (8, .int r_21), (7, .int 0), (0, .ref h), (1, .ref t), (2, .int 1), (3, .int i), (4, .int b)]) G0.1 G0.2.1 dX4_readChain_127 hl (k := 3) rfl (show _ + (1 : Int32) = _ from ex_136.symm) (by decide) rfl (fun ls hl => ?_)
                  refine lv_goto (tgt := 6) G0.1 G0.2.1 dX4_readChain_130 (by decide) ?_
                  exact ih_6 ((2147483647 - x_136.toInt).toNat) (by omega) x_136 r_106 L_102 f_131 _ _ ls rfl ⟨by omega, by omega⟩ hWF hRP hKP hTB (by first | omega | (intros; omega)) (by first | omega | (intros; omega)) (by first | omega | (intros; omega)) (by first | omega | (intros; omega)) (by first | omega | (intros; omega)) (fun _ => rs_af_on hW (by omega) (by omega) (by omega) (by omega)) hw (lv_sub hl [0, 1, 4, 5, 6, 7, 8] rfl)
                · skip
                  have tc_122 := ti_ne c_122
                  refine lv_iconst (v := 1) G0.1 G0.2.1 dX4_readChain_115 (by decide) ?_
                  obtain ⟨v_137, v_138, v_139, hr_142, b_140, b_141⟩ := wg_8 hWF Tt
                  have bv_139 := wf_free v_139
                  have tq_143 := tp_eq hr_142
                  exact py_iret G0 hr rfl hlk hw ⟨⟨by omega, by omega⟩, (by first | omega | (intro q; omega)), (by first | omega | (intro q; omega)), (by first | omega | (intro q; omega)), (by first | exact rs_eqw (hW.trans (rs_af_0 (by omega))) (by omega) (by omega) | exact rs_eq (hW.trans (rs_af_e (by omega) (by omega))) (by omega) (by omega) | exact False.elim (by omega)), hWF, hRP, hKP⟩ dX4_readChain_116
            · skip
              have tc_29 := ti_eq c_29
              clear en_24
              refine lv_iconst (v := 0) G0.1 G0.2.1 dX4_readChain_83 (by decide) ?_
              have t_144 := wt_8 hG Tt
              obtain ⟨v_145, v_146, v_147, hr_150, b_148, b_149⟩ := wg_8 hWF Tt
              have bv_147 := wf_free v_147
              have tq_151 := tp_eq hr_150
              exact py_iret G0 hr rfl hlk hw ⟨⟨by omega, by omega⟩, (by first | omega | (intro q; omega)), (by first | omega | (intro q; omega)), (by first | omega | (intro q; omega)), (by first | exact rs_eqw (hW.trans (rs_af_0 (by omega))) (by omega) (by omega) | exact rs_eq (hW.trans (rs_af_e (by omega) (by omega))) (by omega) (by omega) | exact False.elim (by omega)), hWF, hRP, hKP⟩ dX4_readChain_84
        · skip
          have tc_12 := ti_ne c_12
          refine lv_iload G0.1 G0.2.1 dX4_readChain_19 (lv_at hl 0 rfl) ?_
          refine lv_if_ne (tgt := 28) G0.1 G0.2.1 dX4_readChain_21 (by decide) (fun c_152 => ?_) (fun c_152 => ?_)
          · skip
            have tc_152 := ti_ne c_152
            clear iv4
            refine lv_iconst (v := 0) G0.1 G0.2.1 dX4_readChain_28 (by decide) ?_
            refine lv_istore (lv' := [(7, .int 0), (6, .int v_1), (5, .int v_2), (0, .ref h), (1, .ref t), (2, .int 1), (3, .int i), (4, .int b)]) G0.1 G0.2.1 dX4_readChain_29 hl (by decide) rfl (fun ls hl => ?_)
            refine lv_iload_n G0.1 G0.2.1 dX4_readChain_31 rfl (lv_at hl 5 rfl) ?_
            refine lv_iconst (v := 1) G0.1 G0.2.1 dX4_readChain_32 (by decide) ?_
            refine lv_icmp_ne (tgt := 49) G0.1 G0.2.1 dX4_readChain_33 (by decide) (fun c_153 => ?_) (fun c_153 => ?_)
            · skip
              exact absurd c_153 (by decide)
            · skip
              have tc_153 := ti_eq c_153
              refine lv_aload_n G0.1 G0.2.1 dX4_readChain_36 rfl (lv_at hl 3 rfl) ?_
              refine lv_aload_n G0.1 G0.2.1 dX4_readChain_37 rfl (lv_at hl 4 rfl) ?_
              refine lv_iload_n G0.1 G0.2.1 dX4_readChain_38 rfl (lv_at hl 6 rfl) ?_
              refine lv_iload G0.1 G0.2.1 dX4_readChain_39 (lv_at hl 0 rfl) ?_
              obtain ⟨r_154, hr_156, ty_155⟩ := wg_4 hWF Th
              refine py_calli hw (va_runV (As := [.ref t, .int i, .int 0]) (rest := []) G0 (ih_unit L_j6 f_j6 H_j6.size h t i 0 gb nb (tp_a f_j6 t) eb 0 hWF Th Tt ⟨by omega, by omega⟩ (show wb ≤ i.toInt ∧ i.toInt ≤ 6 by omega) (show (0 : Int32).toInt = 0 by omega) (show i.toInt = 6 - ((eb : Nat) : Int) by omega) (show tp_l f_j6 t = nb ∧ tp_a f_j6 t = (tp_a f_j6 t) by omega) (show 0 ≤ (tp_a f_j6 t) ∧ nb ≤ 160 by omega) hTB) (cwV 3 G0.2.2.2.2 g_X4_readChain_X4_readUnit_54 rfl rfl rfl (by decide +kernel) ⟨(show f_unit + 1 ≤ fr + 1 by omega), (show 8 + (6 + 11) + l_unit ≤ lo + 60 by omega)⟩) (py_preV hw (C := RX4) (T := TX4) (N := 1) rfl hr_156) rfl rfl hl.1 rfl (lv_room (Nat.le_of_ble_eq_true rfl)) dX4_readChain_41 ⟨(Nat.le_of_ble_eq_true rfl), (Nat.le_of_ble_eq_true rfl)⟩) (fun r_161 L_157 f_158 H_159 locs hp_160 hw => ?_)
              obtain ⟨b_166, en_162, en_163, en_164, en_165, hWF, hq_167, kp_168⟩ := hp_160
              have hTB := (gfn_kp (kp_f kp_168 (wt_8 hG Tt) (by decide) (by decide) (fun _ => by decide))).trans hTB
              have hRP := hRP.trans hq_167
              have hKP := hKP.trans kp_168 (by decide) (by decide)
              have hr_156 := kp_at kp_168 hWF Th (by decide) (by decide) (by decide) hr_156
              have hW : (rs_trb gb nb eb bb pb) = rs_af (rs_un gb nb eb) 1 gb nb (rs_unb gb nb eb 0 (tp_a f_j6 t)) := rs_lp_eb (iv5 (by omega)) rs_unb_n (by omega)
              refine lv_istore (lv' := [(8, .int r_161), (7, .int 0), (6, .int v_1), (5, .int v_2), (0, .ref h), (1, .ref t), (2, .int 1), (3, .int i), (4, .int b)]) G0.1 G0.2.1 dX4_readChain_44 hl (by decide) rfl (fun ls hl => ?_)
              refine lv_goto (tgt := 78) G0.1 G0.2.1 dX4_readChain_46 (by decide) ?_
              refine lv_iload G0.1 G0.2.1 dX4_readChain_78 (lv_at hl 0 rfl) ?_
              refine lv_if_ne (tgt := 85) G0.1 G0.2.1 dX4_readChain_80 (by decide) (fun c_169 => ?_) (fun c_169 => ?_)
              · skip
                have tc_169 := ti_ne c_169
                replace en_164 := en_164 (by omega)
                refine lv_iload G0.1 G0.2.1 dX4_readChain_85 (lv_at hl 2 rfl) ?_
                refine lv_if_le (tgt := 100) G0.1 G0.2.1 dX4_readChain_87 (by decide) (fun c_170 => ?_) (fun c_170 => ?_)
                · skip
                  have tc_170 := ti_le c_170
                  refine lv_aload_n G0.1 G0.2.1 dX4_readChain_100 rfl (lv_at hl 5 rfl) ?_
                  have t_171 := wt_8 hG Tt
                  obtain ⟨v_172, v_173, v_174, hr_177, b_175, b_176⟩ := wg_8 hWF Tt
                  have bv_174 := wf_free v_174
                  have tq_178 := tp_eq hr_177
                  refine py_calli hw (va_runV (As := []) (rest := []) G0 (c_X8_next l E G L_157 f_158 H_159.size t gb nb ((rs_unb gb nb eb 0 (tp_a f_j6 t))).2 hG hWF Tt (show tp_l f_158 t = nb ∧ tp_a f_158 t = ((rs_unb gb nb eb 0 (tp_a f_j6 t))).2 by omega) (show 0 ≤ ((rs_unb gb nb eb 0 (tp_a f_j6 t))).2 ∧ nb ≤ 160 by omega) hTB) (cwV 0 G0.2.2.2.2 g_X4_readChain_X8_next_35 rfl rfl rfl (by decide +kernel) ⟨(show 0 + 1 ≤ fr + 1 by omega), (show 8 + (1 + 11) + 0 ≤ lo + 60 by omega)⟩) (py_preV hw (C := RX8) (T := TX8) (N := 4) rfl hr_177) rfl rfl hl.1 rfl (lv_room (Nat.le_of_ble_eq_true rfl)) dX4_readChain_101 ⟨(Nat.le_of_ble_eq_true rfl), (Nat.le_of_ble_eq_true rfl)⟩) (fun r_183 L_179 f_180 H_181 locs hp_182 hw => ?_)
                  obtain ⟨en_184, en_185, en_186, en_187, en_188, hWF, hq_189, kp_190⟩ := hp_182
                  have hTB := (gfn_kp (kp_f kp_190 (wt_8 hG Tt) (by decide) (by decide) (fun _ => by decide))).trans hTB
                  have hRP := hRP.trans hq_189
                  have hKP := hKP.trans kp_190 (by decide) (by decide)
                  have hr_156 := kp_at kp_190 hWF Th (by decide) (by decide) (by decide) hr_156
                  have br_183 := wf_free r_183
                  refine lv_istore (lv' := [(5, .int r_183), (8, .int r_161), (7, .int 0), (6, .int v_1), (0, .ref h), (1, .ref t), (2, .int 1), (3, .int i), (4, .int b)]) G0.1 G0.2.1 dX4_readChain_104 hl (by decide) rfl (fun ls hl => ?_)
                  refine lv_iload G0.1 G0.2.1 dX4_readChain_106 (lv_at hl 0 rfl) ?_
                  refine py_calli hw (va_runS (As := [.int r_183]) (rest := []) G0 (c_X4_chainOf l E G L_179 f_180 H_181.size r_183 (rs_v gb nb (rs_sk gb nb ((rs_unb gb nb eb 0 (tp_a f_j6 t))).2)) hG hWF (show r_183.toInt = (rs_v gb nb (rs_sk gb nb ((rs_unb gb nb eb 0 (tp_a f_j6 t))).2)) by omega)) (va_cwS 1 G0.2.2.2.2 g_X4_readChain_X4_chainOf_62 rfl rfl rfl (by decide +kernel) ⟨(show 0 + 1 ≤ fr + 1 by omega), (show 8 + (1 + 11) + 0 ≤ lo + 60 by omega)⟩) (py_preS hw) rfl rfl hl.1 rfl (lv_room (Nat.le_of_ble_eq_true rfl)) dX4_readChain_108 ⟨(Nat.le_of_ble_eq_true rfl), (Nat.le_of_ble_eq_true rfl)⟩) (fun r_195 L_191 f_192 H_193 locs hp_194 hw => ?_)
                  obtain ⟨b_198, en_196, en_197, rfl, rfl⟩ := hp_194
                  refine lv_iload_n G0.1 G0.2.1 dX4_readChain_111 rfl (lv_at hl 6 rfl) ?_
                  refine lv_icmp_eq (tgt := 117) G0.1 G0.2.1 dX4_readChain_112 (by decide) (fun c_199 => ?_) (fun c_199 => ?_)
                  · skip
                    have tc_199 := ti_eq c_199
                    replace en_196 := en_196 (by omega)
                    refine lv_aload_n G0.1 G0.2.1 dX4_readChain_117 rfl (lv_at hl 5 rfl) ?_
                    refine lv_dup G0.1 G0.2.1 dX4_readChain_118 rfl ?_
                    obtain ⟨v_200, v_201, v_202, hr_205, b_203, b_204⟩ := wg_8 hWF Tt
                    have bv_202 := wf_free v_202
                    have tq_206 := tp_eq hr_205
                    refine py_get (C := RX8) (T := TX8) (N := 4) (k := 2) (v := .int v_201) G0 hw in_X4_readChain_X8 rfl hr_205 (by decide) (by decide +kernel) rfl dX4_readChain_119 ?_
                    refine lv_iconst (v := 1) G0.1 G0.2.1 dX4_readChain_122 (by decide) ?_
                    refine lv_iadd G0.1 G0.2.1 dX4_readChain_123 ?_
                    refine lv_topi (fun x_207 ex_207 => ?_)
                    first | have tx_207 := ti_add ex_207 (by omega) (by omega) | skip
                    refine py_put (C := RX8) (T := TX8) (N := 4) (k := 2) (v := .int x_207) (fs' := [.ref (G.2 t 0), .int v_200, .int x_207, .int v_202]) (ty0 := tyX8) G0 hw tyX8_ok nmX8 in_X4_readChain_X8 rfl hr_205 (by decide) (by decide +kernel) rfl rfl rfl rfl (Nat.le_of_ble_eq_true rfl) rfl dX4_readChain_124 (fun f_208 H_209 locs h_210 x_211 hw => ?_)
                    have hTB := (gfn_kp (kp_f (KP.refl.upd hWF x_211 Tt (Or.inl (by decide)) : KP G [9] false f_180 f_208) (wt_8 hG Tt) (by decide) (by decide) (fun _ => by decide))).trans hTB
                    have hKP := hKP.upd hWF x_211 Tt (Or.inl (by decide))
                    have hRP := hRP.trans (rp_upd hG hWF x_211 hr_205.2 h_210.2 (rp_code hG Tt (by decide)) rfl)
                    have hWF := wf_upd hWF h_210 x_211 (by rw [Tt]; exact ⟨v_200, x_207, v_202, rfl, ⟨by omega, by omega⟩, ⟨by omega, by omega⟩⟩)
                    have tq_212 := tp_eq h_210
                    have hr_156 := hr_156.ext x_211 (py_ne_kind hr_156 hr_205 (by decide))
                    obtain ⟨x_213, ex_213⟩ : ∃ y : Int32, y = v_1 + 1 := ⟨_, rfl⟩
                    first | have tx_213 := ti_add ex_213 (by omega) (by omega) | skip
                    refine lv_iinc (v := x_213) (lv' := [(6, .int x_213), (5, .int r_183), (8, .int r_161), (7, .int 0), (0, .ref h), (1, .ref t), (2, .int 1), (3, .int i), (4, .int b)]) G0.1 G0.2.1 dX4_readChain_127 hl (k := 3) rfl (show _ + (1 : Int32) = _ from ex_213.symm) (by decide) rfl (fun ls hl => ?_)
                    refine lv_goto (tgt := 6) G0.1 G0.2.1 dX4_readChain_130 (by decide) ?_
                    exact ih_6 ((2147483647 - x_213.toInt).toNat) (by omega) x_213 r_183 L_179 f_208 _ _ ls rfl ⟨by omega, by omega⟩ hWF hRP hKP hTB (by first | omega | (intros; omega)) (by first | omega | (intros; omega)) (by first | omega | (intros; omega)) (by first | omega | (intros; omega)) (by first | omega | (intros; omega)) (fun _ => rs_af_on hW (by omega) (by omega) (by omega) (by omega)) hw (lv_sub hl [0, 1, 4, 5, 6, 7, 8] rfl)
                  · skip
                    have tc_199 := ti_ne c_199
                    refine lv_iconst (v := 1) G0.1 G0.2.1 dX4_readChain_115 (by decide) ?_
                    obtain ⟨v_214, v_215, v_216, hr_219, b_217, b_218⟩ := wg_8 hWF Tt
                    have bv_216 := wf_free v_216
                    have tq_220 := tp_eq hr_219
                    exact py_iret G0 hr rfl hlk hw ⟨⟨by omega, by omega⟩, (by first | omega | (intro q; omega)), (by first | omega | (intro q; omega)), (by first | omega | (intro q; omega)), (by first | exact rs_eqw (hW.trans (rs_af_0 (by omega))) (by omega) (by omega) | exact rs_eq (hW.trans (rs_af_e (by omega) (by omega))) (by omega) (by omega) | exact False.elim (by omega)), hWF, hRP, hKP⟩ dX4_readChain_116
                · skip
                  have tc_170 := ti_nle c_170
                  refine lv_aload_n G0.1 G0.2.1 dX4_readChain_90 rfl (lv_at hl 4 rfl) ?_
                  refine py_get (C := RX4) (T := TX4) (N := 1) (k := 0) (v := .ref r_154) G0 hw in_X4_readChain_X4 rfl hr_156 (by decide) (by decide +kernel) rfl dX4_readChain_91 ?_
                  refine lv_iload G0.1 G0.2.1 dX4_readChain_94 (lv_at hl 3 rfl) ?_
                  refine lv_iconst (v := 0) G0.1 G0.2.1 dX4_readChain_96 (by decide) ?_
                  obtain ⟨t_221, t_222⟩ := wt_3 hG ty_155
                  obtain ⟨v_223, hr_225, b_224⟩ := wg_3 hWF ty_155
                  have t_226 := wt_8 hG Tt
                  obtain ⟨v_227, v_228, v_229, hr_232, b_230, b_231⟩ := wg_8 hWF Tt
                  have bv_229 := wf_free v_229
                  have tq_233 := tp_eq hr_232
                  refine py_callv hw (va_runV (As := [.int v_2, .int 0]) (rest := []) G0 (c_X3_add l E G L_157 f_158 H_159.size r_154 v_2 0 hG hWF ty_155) (cwV 2 G0.2.2.2.2 g_X4_readChain_X3_add_46 rfl rfl rfl (by decide +kernel) ⟨(show 0 + 1 ≤ fr + 1 by omega), (show 8 + (3 + 11) + 0 ≤ lo + 60 by omega)⟩) (py_preV hw (C := RX3) (T := TX3) (N := 3) rfl hr_225) rfl rfl hl.1 rfl (lv_room (Nat.le_of_ble_eq_true rfl)) dX4_readChain_97 ⟨(Nat.le_of_ble_eq_true rfl), (Nat.le_of_ble_eq_true rfl)⟩) (fun L_234 f_235 H_236 locs hp_237 hw => ?_)
                  obtain ⟨hWF, hq_239, kp_240⟩ := hp_237
                  have hTB := (gfn_kp (kp_f kp_240 (wt_8 hG Tt) (by decide) (by decide) (fun _ => by decide))).trans hTB
                  have hRP := hRP.trans hq_239
                  have hKP := hKP.trans kp_240 (by decide) (by decide)
                  have hr_156 := kp_at kp_240 hWF Th (by decide) (by decide) (by decide) hr_156
                  have hr_232 := kp_at kp_240 hWF Tt (by decide) (by decide) (by decide) hr_232
                  have tq_241 := tp_eq hr_232
                  refine lv_aload_n G0.1 G0.2.1 dX4_readChain_100 rfl (lv_at hl 5 rfl) ?_
                  refine py_calli hw (va_runV (As := []) (rest := []) G0 (c_X8_next l E G L_234 f_235 H_236.size t gb nb ((rs_unb gb nb eb 0 (tp_a f_j6 t))).2 hG hWF Tt (show tp_l f_235 t = nb ∧ tp_a f_235 t = ((rs_unb gb nb eb 0 (tp_a f_j6 t))).2 by omega) (show 0 ≤ ((rs_unb gb nb eb 0 (tp_a f_j6 t))).2 ∧ nb ≤ 160 by omega) hTB) (cwV 0 G0.2.2.2.2 g_X4_readChain_X8_next_35 rfl rfl rfl (by decide +kernel) ⟨(show 0 + 1 ≤ fr + 1 by omega), (show 8 + (1 + 11) + 0 ≤ lo + 60 by omega)⟩) (py_preV hw (C := RX8) (T := TX8) (N := 4) rfl hr_232) rfl rfl hl.1 rfl (lv_room (Nat.le_of_ble_eq_true rfl)) dX4_readChain_101 ⟨(Nat.le_of_ble_eq_true rfl), (Nat.le_of_ble_eq_true rfl)⟩) (fun r_246 L_242 f_243 H_244 locs hp_245 hw => ?_)
                  obtain ⟨en_247, en_248, en_249, en_250, en_251, hWF, hq_252, kp_253⟩ := hp_245
                  have hTB := (gfn_kp (kp_f kp_253 (wt_8 hG Tt) (by decide) (by decide) (fun _ => by decide))).trans hTB
                  have hRP := hRP.trans hq_252
                  have hKP := hKP.trans kp_253 (by decide) (by decide)
                  have hr_156 := kp_at kp_253 hWF Th (by decide) (by decide) (by decide) hr_156
                  have br_246 := wf_free r_246
                  refine lv_istore (lv' := [(5, .int r_246), (8, .int r_161), (7, .int 0), (6, .int v_1), (0, .ref h), (1, .ref t), (2, .int 1), (3, .int i), (4, .int b)]) G0.1 G0.2.1 dX4_readChain_104 hl (by decide) rfl (fun ls hl => ?_)
                  refine lv_iload G0.1 G0.2.1 dX4_readChain_106 (lv_at hl 0 rfl) ?_
                  refine py_calli hw (va_runS (As := [.int r_246]) (rest := []) G0 (c_X4_chainOf l E G L_242 f_243 H_244.size r_246 (rs_v gb nb (rs_sk gb nb ((rs_unb gb nb eb 0 (tp_a f_j6 t))).2)) hG hWF (show r_246.toInt = (rs_v gb nb (rs_sk gb nb ((rs_unb gb nb eb 0 (tp_a f_j6 t))).2)) by omega)) (va_cwS 1 G0.2.2.2.2 g_X4_readChain_X4_chainOf_62 rfl rfl rfl (by decide +kernel) ⟨(show 0 + 1 ≤ fr + 1 by omega), (show 8 + (1 + 11) + 0 ≤ lo + 60 by omega)⟩) (py_preS hw) rfl rfl hl.1 rfl (lv_room (Nat.le_of_ble_eq_true rfl)) dX4_readChain_108 ⟨(Nat.le_of_ble_eq_true rfl), (Nat.le_of_ble_eq_true rfl)⟩) (fun r_258 L_254 f_255 H_256 locs hp_257 hw => ?_)
                  obtain ⟨b_261, en_259, en_260, rfl, rfl⟩ := hp_257
                  refine lv_iload_n G0.1 G0.2.1 dX4_readChain_111 rfl (lv_at hl 6 rfl) ?_
                  refine lv_icmp_eq (tgt := 117) G0.1 G0.2.1 dX4_readChain_112 (by decide) (fun c_262 => ?_) (fun c_262 => ?_)
                  · skip
                    have tc_262 := ti_eq c_262
                    replace en_259 := en_259 (by omega)
                    refine lv_aload_n G0.1 G0.2.1 dX4_readChain_117 rfl (lv_at hl 5 rfl) ?_
                    refine lv_dup G0.1 G0.2.1 dX4_readChain_118 rfl ?_
                    obtain ⟨v_263, v_264, v_265, hr_268, b_266, b_267⟩ := wg_8 hWF Tt
                    have bv_265 := wf_free v_265
                    have tq_269 := tp_eq hr_268
                    refine py_get (C := RX8) (T := TX8) (N := 4) (k := 2) (v := .int v_264) G0 hw in_X4_readChain_X8 rfl hr_268 (by decide) (by decide +kernel) rfl dX4_readChain_119 ?_
                    refine lv_iconst (v := 1) G0.1 G0.2.1 dX4_readChain_122 (by decide) ?_
                    refine lv_iadd G0.1 G0.2.1 dX4_readChain_123 ?_
                    refine lv_topi (fun x_270 ex_270 => ?_)
                    first | have tx_270 := ti_add ex_270 (by omega) (by omega) | skip
                    refine py_put (C := RX8) (T := TX8) (N := 4) (k := 2) (v := .int x_270) (fs' := [.ref (G.2 t 0), .int v_263, .int x_270, .int v_265]) (ty0 := tyX8) G0 hw tyX8_ok nmX8 in_X4_readChain_X8 rfl hr_268 (by decide) (by decide +kernel) rfl rfl rfl rfl (Nat.le_of_ble_eq_true rfl) rfl dX4_readChain_124 (fun f_271 H_272 locs h_273 x_274 hw => ?_)
                    have hTB := (gfn_kp (kp_f (KP.refl.upd hWF x_274 Tt (Or.inl (by decide)) : KP G [9] false f_243 f_271) (wt_8 hG Tt) (by decide) (by decide) (fun _ => by decide))).trans hTB
                    have hKP := hKP.upd hWF x_274 Tt (Or.inl (by decide))
                    have hRP := hRP.trans (rp_upd hG hWF x_274 hr_268.2 h_273.2 (rp_code hG Tt (by decide)) rfl)
                    have hWF := wf_upd hWF h_273 x_274 (by rw [Tt]; exact ⟨v_263, x_270, v_265, rfl, ⟨by omega, by omega⟩, ⟨by omega, by omega⟩⟩)
                    have tq_275 := tp_eq h_273
                    have hr_156 := hr_156.ext x_274 (py_ne_kind hr_156 hr_268 (by decide))
                    obtain ⟨x_276, ex_276⟩ : ∃ y : Int32, y = v_1 + 1 := ⟨_, rfl⟩
                    first | have tx_276 := ti_add ex_276 (by omega) (by omega) | skip
                    refine lv_iinc (v := x_276) (lv' := [(6, .int x_276), (5, .int r_246), (8, .int r_161), (7, .int 0), (0, .ref h), (1, .ref t), (2, .int 1), (3, .int i), (4, .int b)]) G0.1 G0.2.1 dX4_readChain_127 hl (k := 3) rfl (show _ + (1 : Int32) = _ from ex_276.symm) (by decide) rfl (fun ls hl => ?_)
                    refine lv_goto (tgt := 6) G0.1 G0.2.1 dX4_readChain_130 (by decide) ?_
                    exact ih_6 ((2147483647 - x_276.toInt).toNat) (by omega) x_276 r_246 L_242 f_271 _ _ ls rfl ⟨by omega, by omega⟩ hWF hRP hKP hTB (by first | omega | (intros; omega)) (by first | omega | (intros; omega)) (by first | omega | (intros; omega)) (by first | omega | (intros; omega)) (by first | omega | (intros; omega)) (fun _ => rs_af_on hW (by omega) (by omega) (by omega) (by omega)) hw (lv_sub hl [0, 1, 4, 5, 6, 7, 8] rfl)
                  · skip
                    have tc_262 := ti_ne c_262
                    refine lv_iconst (v := 1) G0.1 G0.2.1 dX4_readChain_115 (by decide) ?_
                    obtain ⟨v_277, v_278, v_279, hr_282, b_280, b_281⟩ := wg_8 hWF Tt
                    have bv_279 := wf_free v_279
                    have tq_283 := tp_eq hr_282
                    exact py_iret G0 hr rfl hlk hw ⟨⟨by omega, by omega⟩, (by first | omega | (intro q; omega)), (by first | omega | (intro q; omega)), (by first | omega | (intro q; omega)), (by first | exact rs_eqw (hW.trans (rs_af_0 (by omega))) (by omega) (by omega) | exact rs_eq (hW.trans (rs_af_e (by omega) (by omega))) (by omega) (by omega) | exact False.elim (by omega)), hWF, hRP, hKP⟩ dX4_readChain_116
              · skip
                have tc_169 := ti_eq c_169
                clear en_164
                refine lv_iconst (v := 0) G0.1 G0.2.1 dX4_readChain_83 (by decide) ?_
                have t_284 := wt_8 hG Tt
                obtain ⟨v_285, v_286, v_287, hr_290, b_288, b_289⟩ := wg_8 hWF Tt
                have bv_287 := wf_free v_287
                have tq_291 := tp_eq hr_290
                exact py_iret G0 hr rfl hlk hw ⟨⟨by omega, by omega⟩, (by first | omega | (intro q; omega)), (by first | omega | (intro q; omega)), (by first | omega | (intro q; omega)), (by first | exact rs_eqw (hW.trans (rs_af_0 (by omega))) (by omega) (by omega) | exact rs_eq (hW.trans (rs_af_e (by omega) (by omega))) (by omega) (by omega) | exact False.elim (by omega)), hWF, hRP, hKP⟩ dX4_readChain_84
          · skip
            have tc_152 := ti_eq c_152
            replace iv4 := iv4 (by omega)
            refine lv_iconst (v := 1) G0.1 G0.2.1 dX4_readChain_24 (by decide) ?_
            refine lv_goto (tgt := 29) G0.1 G0.2.1 dX4_readChain_25 (by decide) ?_
            refine lv_istore (lv' := [(7, .int 1), (6, .int v_1), (5, .int v_2), (0, .ref h), (1, .ref t), (2, .int 1), (3, .int i), (4, .int b)]) G0.1 G0.2.1 dX4_readChain_29 hl (by decide) rfl (fun ls hl => ?_)
            refine lv_iload_n G0.1 G0.2.1 dX4_readChain_31 rfl (lv_at hl 5 rfl) ?_
            refine lv_iconst (v := 1) G0.1 G0.2.1 dX4_readChain_32 (by decide) ?_
            refine lv_icmp_ne (tgt := 49) G0.1 G0.2.1 dX4_readChain_33 (by decide) (fun c_292 => ?_) (fun c_292 => ?_)
            · skip
              exact absurd c_292 (by decide)
            · skip
              have tc_292 := ti_eq c_292
              refine lv_aload_n G0.1 G0.2.1 dX4_readChain_36 rfl (lv_at hl 3 rfl) ?_
              refine lv_aload_n G0.1 G0.2.1 dX4_readChain_37 rfl (lv_at hl 4 rfl) ?_
              refine lv_iload_n G0.1 G0.2.1 dX4_readChain_38 rfl (lv_at hl 6 rfl) ?_
              refine lv_iload G0.1 G0.2.1 dX4_readChain_39 (lv_at hl 0 rfl) ?_
              obtain ⟨r_293, hr_295, ty_294⟩ := wg_4 hWF Th
              refine py_calli hw (va_runV (As := [.ref t, .int i, .int 1]) (rest := []) G0 (ih_unit L_j6 f_j6 H_j6.size h t i 1 gb nb (tp_a f_j6 t) eb 1 hWF Th Tt ⟨by omega, by omega⟩ (show wb ≤ i.toInt ∧ i.toInt ≤ 6 by omega) (show (1 : Int32).toInt = 1 by omega) (show i.toInt = 6 - ((eb : Nat) : Int) by omega) (show tp_l f_j6 t = nb ∧ tp_a f_j6 t = (tp_a f_j6 t) by omega) (show 0 ≤ (tp_a f_j6 t) ∧ nb ≤ 160 by omega) hTB) (cwV 3 G0.2.2.2.2 g_X4_readChain_X4_readUnit_54 rfl rfl rfl (by decide +kernel) ⟨(show f_unit + 1 ≤ fr + 1 by omega), (show 8 + (6 + 11) + l_unit ≤ lo + 60 by omega)⟩) (py_preV hw (C := RX4) (T := TX4) (N := 1) rfl hr_295) rfl rfl hl.1 rfl (lv_room (Nat.le_of_ble_eq_true rfl)) dX4_readChain_41 ⟨(Nat.le_of_ble_eq_true rfl), (Nat.le_of_ble_eq_true rfl)⟩) (fun r_300 L_296 f_297 H_298 locs hp_299 hw => ?_)
              obtain ⟨b_305, en_301, en_302, en_303, en_304, hWF, hq_306, kp_307⟩ := hp_299
              have hTB := (gfn_kp (kp_f kp_307 (wt_8 hG Tt) (by decide) (by decide) (fun _ => by decide))).trans hTB
              have hRP := hRP.trans hq_306
              have hKP := hKP.trans kp_307 (by decide) (by decide)
              have hr_295 := kp_at kp_307 hWF Th (by decide) (by decide) (by decide) hr_295
              have hW : (rs_trb gb nb eb bb pb) = rs_af (rs_un gb nb eb) 1 gb nb (rs_unb gb nb eb 1 (tp_a f_j6 t)) := (by rw [show (tp_a f_j6 t) = pb by omega]; exact rs_trb_1 (by omega))
              refine lv_istore (lv' := [(8, .int r_300), (7, .int 1), (6, .int v_1), (5, .int v_2), (0, .ref h), (1, .ref t), (2, .int 1), (3, .int i), (4, .int b)]) G0.1 G0.2.1 dX4_readChain_44 hl (by decide) rfl (fun ls hl => ?_)
              refine lv_goto (tgt := 78) G0.1 G0.2.1 dX4_readChain_46 (by decide) ?_
              refine lv_iload G0.1 G0.2.1 dX4_readChain_78 (lv_at hl 0 rfl) ?_
              refine lv_if_ne (tgt := 85) G0.1 G0.2.1 dX4_readChain_80 (by decide) (fun c_308 => ?_) (fun c_308 => ?_)
              · skip
                have tc_308 := ti_ne c_308
                replace en_303 := en_303 (by omega)
                refine lv_iload G0.1 G0.2.1 dX4_readChain_85 (lv_at hl 2 rfl) ?_
                refine lv_if_le (tgt := 100) G0.1 G0.2.1 dX4_readChain_87 (by decide) (fun c_309 => ?_) (fun c_309 => ?_)
                · skip
                  have tc_309 := ti_le c_309
                  refine lv_aload_n G0.1 G0.2.1 dX4_readChain_100 rfl (lv_at hl 5 rfl) ?_
                  have t_310 := wt_8 hG Tt
                  obtain ⟨v_311, v_312, v_313, hr_316, b_314, b_315⟩ := wg_8 hWF Tt
                  have bv_313 := wf_free v_313
                  have tq_317 := tp_eq hr_316
                  refine py_calli hw (va_runV (As := []) (rest := []) G0 (c_X8_next l E G L_296 f_297 H_298.size t gb nb ((rs_unb gb nb eb 1 (tp_a f_j6 t))).2 hG hWF Tt (show tp_l f_297 t = nb ∧ tp_a f_297 t = ((rs_unb gb nb eb 1 (tp_a f_j6 t))).2 by omega) (show 0 ≤ ((rs_unb gb nb eb 1 (tp_a f_j6 t))).2 ∧ nb ≤ 160 by omega) hTB) (cwV 0 G0.2.2.2.2 g_X4_readChain_X8_next_35 rfl rfl rfl (by decide +kernel) ⟨(show 0 + 1 ≤ fr + 1 by omega), (show 8 + (1 + 11) + 0 ≤ lo + 60 by omega)⟩) (py_preV hw (C := RX8) (T := TX8) (N := 4) rfl hr_316) rfl rfl hl.1 rfl (lv_room (Nat.le_of_ble_eq_true rfl)) dX4_readChain_101 ⟨(Nat.le_of_ble_eq_true rfl), (Nat.le_of_ble_eq_true rfl)⟩) (fun r_322 L_318 f_319 H_320 locs hp_321 hw => ?_)
                  obtain ⟨en_323, en_324, en_325, en_326, en_327, hWF, hq_328, kp_329⟩ := hp_321
                  have hTB := (gfn_kp (kp_f kp_329 (wt_8 hG Tt) (by decide) (by decide) (fun _ => by decide))).trans hTB
                  have hRP := hRP.trans hq_328
                  have hKP := hKP.trans kp_329 (by decide) (by decide)
                  have hr_295 := kp_at kp_329 hWF Th (by decide) (by decide) (by decide) hr_295
                  have br_322 := wf_free r_322
                  refine lv_istore (lv' := [(5, .int r_322), (8, .int r_300), (7, .int 1), (6, .int v_1), (0, .ref h), (1, .ref t), (2, .int 1), (3, .int i), (4, .int b)]) G0.1 G0.2.1 dX4_readChain_104 hl (by decide) rfl (fun ls hl => ?_)
                  refine lv_iload G0.1 G0.2.1 dX4_readChain_106 (lv_at hl 0 rfl) ?_
                  refine py_calli hw (va_runS (As := [.int r_322]) (rest := []) G0 (c_X4_chainOf l E G L_318 f_319 H_320.size r_322 (rs_v gb nb (rs_sk gb nb ((rs_unb gb nb eb 1 (tp_a f_j6 t))).2)) hG hWF (show r_322.toInt = (rs_v gb nb (rs_sk gb nb ((rs_unb gb nb eb 1 (tp_a f_j6 t))).2)) by omega)) (va_cwS 1 G0.2.2.2.2 g_X4_readChain_X4_chainOf_62 rfl rfl rfl (by decide +kernel) ⟨(show 0 + 1 ≤ fr + 1 by omega), (show 8 + (1 + 11) + 0 ≤ lo + 60 by omega)⟩) (py_preS hw) rfl rfl hl.1 rfl (lv_room (Nat.le_of_ble_eq_true rfl)) dX4_readChain_108 ⟨(Nat.le_of_ble_eq_true rfl), (Nat.le_of_ble_eq_true rfl)⟩) (fun r_334 L_330 f_331 H_332 locs hp_333 hw => ?_)
                  obtain ⟨b_337, en_335, en_336, rfl, rfl⟩ := hp_333
                  refine lv_iload_n G0.1 G0.2.1 dX4_readChain_111 rfl (lv_at hl 6 rfl) ?_
                  refine lv_icmp_eq (tgt := 117) G0.1 G0.2.1 dX4_readChain_112 (by decide) (fun c_338 => ?_) (fun c_338 => ?_)
                  · skip
                    have tc_338 := ti_eq c_338
                    replace en_335 := en_335 (by omega)
                    refine lv_aload_n G0.1 G0.2.1 dX4_readChain_117 rfl (lv_at hl 5 rfl) ?_
                    refine lv_dup G0.1 G0.2.1 dX4_readChain_118 rfl ?_
                    obtain ⟨v_339, v_340, v_341, hr_344, b_342, b_343⟩ := wg_8 hWF Tt
                    have bv_341 := wf_free v_341
                    have tq_345 := tp_eq hr_344
                    refine py_get (C := RX8) (T := TX8) (N := 4) (k := 2) (v := .int v_340) G0 hw in_X4_readChain_X8 rfl hr_344 (by decide) (by decide +kernel) rfl dX4_readChain_119 ?_
                    refine lv_iconst (v := 1) G0.1 G0.2.1 dX4_readChain_122 (by decide) ?_
                    refine lv_iadd G0.1 G0.2.1 dX4_readChain_123 ?_
                    refine lv_topi (fun x_346 ex_346 => ?_)
                    first | have tx_346 := ti_add ex_346 (by omega) (by omega) | skip
                    refine py_put (C := RX8) (T := TX8) (N := 4) (k := 2) (v := .int x_346) (fs' := [.ref (G.2 t 0), .int v_339, .int x_346, .int v_341]) (ty0 := tyX8) G0 hw tyX8_ok nmX8 in_X4_readChain_X8 rfl hr_344 (by decide) (by decide +kernel) rfl rfl rfl rfl (Nat.le_of_ble_eq_true rfl) rfl dX4_readChain_124 (fun f_347 H_348 locs h_349 x_350 hw => ?_)
                    have hTB := (gfn_kp (kp_f (KP.refl.upd hWF x_350 Tt (Or.inl (by decide)) : KP G [9] false f_319 f_347) (wt_8 hG Tt) (by decide) (by decide) (fun _ => by decide))).trans hTB
                    have hKP := hKP.upd hWF x_350 Tt (Or.inl (by decide))
                    have hRP := hRP.trans (rp_upd hG hWF x_350 hr_344.2 h_349.2 (rp_code hG Tt (by decide)) rfl)
                    have hWF := wf_upd hWF h_349 x_350 (by rw [Tt]; exact ⟨v_339, x_346, v_341, rfl, ⟨by omega, by omega⟩, ⟨by omega, by omega⟩⟩)
                    have tq_351 := tp_eq h_349
                    have hr_295 := hr_295.ext x_350 (py_ne_kind hr_295 hr_344 (by decide))
                    obtain ⟨x_352, ex_352⟩ : ∃ y : Int32, y = v_1 + 1 := ⟨_, rfl⟩
                    first | have tx_352 := ti_add ex_352 (by omega) (by omega) | skip
                    refine lv_iinc (v := x_352) (lv' := [(6, .int x_352), (5, .int r_322), (8, .int r_300), (7, .int 1), (0, .ref h), (1, .ref t), (2, .int 1), (3, .int i), (4, .int b)]) G0.1 G0.2.1 dX4_readChain_127 hl (k := 3) rfl (show _ + (1 : Int32) = _ from ex_352.symm) (by decide) rfl (fun ls hl => ?_)
                    refine lv_goto (tgt := 6) G0.1 G0.2.1 dX4_readChain_130 (by decide) ?_
                    exact ih_6 ((2147483647 - x_352.toInt).toNat) (by omega) x_352 r_322 L_318 f_347 _ _ ls rfl ⟨by omega, by omega⟩ hWF hRP hKP hTB (by first | omega | (intros; omega)) (by first | omega | (intros; omega)) (by first | omega | (intros; omega)) (by first | omega | (intros; omega)) (by first | omega | (intros; omega)) (fun _ => rs_af_on hW (by omega) (by omega) (by omega) (by omega)) hw (lv_sub hl [0, 1, 4, 5, 6, 7, 8] rfl)
                  · skip
                    have tc_338 := ti_ne c_338
                    refine lv_iconst (v := 1) G0.1 G0.2.1 dX4_readChain_115 (by decide) ?_
                    obtain ⟨v_353, v_354, v_355, hr_358, b_356, b_357⟩ := wg_8 hWF Tt
                    have bv_355 := wf_free v_355
                    have tq_359 := tp_eq hr_358
                    exact py_iret G0 hr rfl hlk hw ⟨⟨by omega, by omega⟩, (by first | omega | (intro q; omega)), (by first | omega | (intro q; omega)), (by first | omega | (intro q; omega)), (by first | exact rs_eqw (hW.trans (rs_af_0 (by omega))) (by omega) (by omega) | exact rs_eq (hW.trans (rs_af_e (by omega) (by omega))) (by omega) (by omega) | exact False.elim (by omega)), hWF, hRP, hKP⟩ dX4_readChain_116
                · skip
                  have tc_309 := ti_nle c_309
                  refine lv_aload_n G0.1 G0.2.1 dX4_readChain_90 rfl (lv_at hl 4 rfl) ?_
                  refine py_get (C := RX4) (T := TX4) (N := 1) (k := 0) (v := .ref r_293) G0 hw in_X4_readChain_X4 rfl hr_295 (by decide) (by decide +kernel) rfl dX4_readChain_91 ?_
                  refine lv_iload G0.1 G0.2.1 dX4_readChain_94 (lv_at hl 3 rfl) ?_
                  refine lv_iconst (v := 0) G0.1 G0.2.1 dX4_readChain_96 (by decide) ?_
                  obtain ⟨t_360, t_361⟩ := wt_3 hG ty_294
                  obtain ⟨v_362, hr_364, b_363⟩ := wg_3 hWF ty_294
                  have t_365 := wt_8 hG Tt
                  obtain ⟨v_366, v_367, v_368, hr_371, b_369, b_370⟩ := wg_8 hWF Tt
                  have bv_368 := wf_free v_368
                  have tq_372 := tp_eq hr_371
                  refine py_callv hw (va_runV (As := [.int v_2, .int 0]) (rest := []) G0 (c_X3_add l E G L_296 f_297 H_298.size r_293 v_2 0 hG hWF ty_294) (cwV 2 G0.2.2.2.2 g_X4_readChain_X3_add_46 rfl rfl rfl (by decide +kernel) ⟨(show 0 + 1 ≤ fr + 1 by omega), (show 8 + (3 + 11) + 0 ≤ lo + 60 by omega)⟩) (py_preV hw (C := RX3) (T := TX3) (N := 3) rfl hr_364) rfl rfl hl.1 rfl (lv_room (Nat.le_of_ble_eq_true rfl)) dX4_readChain_97 ⟨(Nat.le_of_ble_eq_true rfl), (Nat.le_of_ble_eq_true rfl)⟩) (fun L_373 f_374 H_375 locs hp_376 hw => ?_)
                  obtain ⟨hWF, hq_378, kp_379⟩ := hp_376
                  have hTB := (gfn_kp (kp_f kp_379 (wt_8 hG Tt) (by decide) (by decide) (fun _ => by decide))).trans hTB
                  have hRP := hRP.trans hq_378
                  have hKP := hKP.trans kp_379 (by decide) (by decide)
                  have hr_295 := kp_at kp_379 hWF Th (by decide) (by decide) (by decide) hr_295
                  have hr_371 := kp_at kp_379 hWF Tt (by decide) (by decide) (by decide) hr_371
                  have tq_380 := tp_eq hr_371
                  refine lv_aload_n G0.1 G0.2.1 dX4_readChain_100 rfl (lv_at hl 5 rfl) ?_
                  refine py_calli hw (va_runV (As := []) (rest := []) G0 (c_X8_next l E G L_373 f_374 H_375.size t gb nb ((rs_unb gb nb eb 1 (tp_a f_j6 t))).2 hG hWF Tt (show tp_l f_374 t = nb ∧ tp_a f_374 t = ((rs_unb gb nb eb 1 (tp_a f_j6 t))).2 by omega) (show 0 ≤ ((rs_unb gb nb eb 1 (tp_a f_j6 t))).2 ∧ nb ≤ 160 by omega) hTB) (cwV 0 G0.2.2.2.2 g_X4_readChain_X8_next_35 rfl rfl rfl (by decide +kernel) ⟨(show 0 + 1 ≤ fr + 1 by omega), (show 8 + (1 + 11) + 0 ≤ lo + 60 by omega)⟩) (py_preV hw (C := RX8) (T := TX8) (N := 4) rfl hr_371) rfl rfl hl.1 rfl (lv_room (Nat.le_of_ble_eq_true rfl)) dX4_readChain_101 ⟨(Nat.le_of_ble_eq_true rfl), (Nat.le_of_ble_eq_true rfl)⟩) (fun r_385 L_381 f_382 H_383 locs hp_384 hw => ?_)
                  obtain ⟨en_386, en_387, en_388, en_389, en_390, hWF, hq_391, kp_392⟩ := hp_384
                  have hTB := (gfn_kp (kp_f kp_392 (wt_8 hG Tt) (by decide) (by decide) (fun _ => by decide))).trans hTB
                  have hRP := hRP.trans hq_391
                  have hKP := hKP.trans kp_392 (by decide) (by decide)
                  have hr_295 := kp_at kp_392 hWF Th (by decide) (by decide) (by decide) hr_295
                  have br_385 := wf_free r_385
                  refine lv_istore (lv' := [(5, .int r_385), (8, .int r_300), (7, .int 1), (6, .int v_1), (0, .ref h), (1, .ref t), (2, .int 1), (3, .int i), (4, .int b)]) G0.1 G0.2.1 dX4_readChain_104 hl (by decide) rfl (fun ls hl => ?_)
                  refine lv_iload G0.1 G0.2.1 dX4_readChain_106 (lv_at hl 0 rfl) ?_
                  refine py_calli hw (va_runS (As := [.int r_385]) (rest := []) G0 (c_X4_chainOf l E G L_381 f_382 H_383.size r_385 (rs_v gb nb (rs_sk gb nb ((rs_unb gb nb eb 1 (tp_a f_j6 t))).2)) hG hWF (show r_385.toInt = (rs_v gb nb (rs_sk gb nb ((rs_unb gb nb eb 1 (tp_a f_j6 t))).2)) by omega)) (va_cwS 1 G0.2.2.2.2 g_X4_readChain_X4_chainOf_62 rfl rfl rfl (by decide +kernel) ⟨(show 0 + 1 ≤ fr + 1 by omega), (show 8 + (1 + 11) + 0 ≤ lo + 60 by omega)⟩) (py_preS hw) rfl rfl hl.1 rfl (lv_room (Nat.le_of_ble_eq_true rfl)) dX4_readChain_108 ⟨(Nat.le_of_ble_eq_true rfl), (Nat.le_of_ble_eq_true rfl)⟩) (fun r_397 L_393 f_394 H_395 locs hp_396 hw => ?_)
                  obtain ⟨b_400, en_398, en_399, rfl, rfl⟩ := hp_396
                  refine lv_iload_n G0.1 G0.2.1 dX4_readChain_111 rfl (lv_at hl 6 rfl) ?_
                  refine lv_icmp_eq (tgt := 117) G0.1 G0.2.1 dX4_readChain_112 (by decide) (fun c_401 => ?_) (fun c_401 => ?_)
                  · skip
                    have tc_401 := ti_eq c_401
                    replace en_398 := en_398 (by omega)
                    refine lv_aload_n G0.1 G0.2.1 dX4_readChain_117 rfl (lv_at hl 5 rfl) ?_
                    refine lv_dup G0.1 G0.2.1 dX4_readChain_118 rfl ?_
                    obtain ⟨v_402, v_403, v_404, hr_407, b_405, b_406⟩ := wg_8 hWF Tt
                    have bv_404 := wf_free v_404
                    have tq_408 := tp_eq hr_407
                    refine py_get (C := RX8) (T := TX8) (N := 4) (k := 2) (v := .int v_403) G0 hw in_X4_readChain_X8 rfl hr_407 (by decide) (by decide +kernel) rfl dX4_readChain_119 ?_
                    refine lv_iconst (v := 1) G0.1 G0.2.1 dX4_readChain_122 (by decide) ?_
                    refine lv_iadd G0.1 G0.2.1 dX4_readChain_123 ?_
                    refine lv_topi (fun x_409 ex_409 => ?_)
                    first | have tx_409 := ti_add ex_409 (by omega) (by omega) | skip
                    refine py_put (C := RX8) (T := TX8) (N := 4) (k := 2) (v := .int x_409) (fs' := [.ref (G.2 t 0), .int v_402, .int x_409, .int v_404]) (ty0 := tyX8) G0 hw tyX8_ok nmX8 in_X4_readChain_X8 rfl hr_407 (by decide) (by decide +kernel) rfl rfl rfl rfl (Nat.le_of_ble_eq_true rfl) rfl dX4_readChain_124 (fun f_410 H_411 locs h_412 x_413 hw => ?_)
                    have hTB := (gfn_kp (kp_f (KP.refl.upd hWF x_413 Tt (Or.inl (by decide)) : KP G [9] false f_382 f_410) (wt_8 hG Tt) (by decide) (by decide) (fun _ => by decide))).trans hTB
                    have hKP := hKP.upd hWF x_413 Tt (Or.inl (by decide))
                    have hRP := hRP.trans (rp_upd hG hWF x_413 hr_407.2 h_412.2 (rp_code hG Tt (by decide)) rfl)
                    have hWF := wf_upd hWF h_412 x_413 (by rw [Tt]; exact ⟨v_402, x_409, v_404, rfl, ⟨by omega, by omega⟩, ⟨by omega, by omega⟩⟩)
                    have tq_414 := tp_eq h_412
                    have hr_295 := hr_295.ext x_413 (py_ne_kind hr_295 hr_407 (by decide))
                    obtain ⟨x_415, ex_415⟩ : ∃ y : Int32, y = v_1 + 1 := ⟨_, rfl⟩
                    first | have tx_415 := ti_add ex_415 (by omega) (by omega) | skip
                    refine lv_iinc (v := x_415) (lv' := [(6, .int x_415), (5, .int r_385), (8, .int r_300), (7, .int 1), (0, .ref h), (1, .ref t), (2, .int 1), (3, .int i), (4, .int b)]) G0.1 G0.2.1 dX4_readChain_127 hl (k := 3) rfl (show _ + (1 : Int32) = _ from ex_415.symm) (by decide) rfl (fun ls hl => ?_)
                    refine lv_goto (tgt := 6) G0.1 G0.2.1 dX4_readChain_130 (by decide) ?_
                    exact ih_6 ((2147483647 - x_415.toInt).toNat) (by omega) x_415 r_385 L_381 f_410 _ _ ls rfl ⟨by omega, by omega⟩ hWF hRP hKP hTB (by first | omega | (intros; omega)) (by first | omega | (intros; omega)) (by first | omega | (intros; omega)) (by first | omega | (intros; omega)) (by first | omega | (intros; omega)) (fun _ => rs_af_on hW (by omega) (by omega) (by omega) (by omega)) hw (lv_sub hl [0, 1, 4, 5, 6, 7, 8] rfl)
                  · skip
                    have tc_401 := ti_ne c_401
                    refine lv_iconst (v := 1) G0.1 G0.2.1 dX4_readChain_115 (by decide) ?_
                    obtain ⟨v_416, v_417, v_418, hr_421, b_419, b_420⟩ := wg_8 hWF Tt
                    have bv_418 := wf_free v_418
                    have tq_422 := tp_eq hr_421
                    exact py_iret G0 hr rfl hlk hw ⟨⟨by omega, by omega⟩, (by first | omega | (intro q; omega)), (by first | omega | (intro q; omega)), (by first | omega | (intro q; omega)), (by first | exact rs_eqw (hW.trans (rs_af_0 (by omega))) (by omega) (by omega) | exact rs_eq (hW.trans (rs_af_e (by omega) (by omega))) (by omega) (by omega) | exact False.elim (by omega)), hWF, hRP, hKP⟩ dX4_readChain_116
              · skip
                have tc_308 := ti_eq c_308
                clear en_303
                refine lv_iconst (v := 0) G0.1 G0.2.1 dX4_readChain_83 (by decide) ?_
                have t_423 := wt_8 hG Tt
                obtain ⟨v_424, v_425, v_426, hr_429, b_427, b_428⟩ := wg_8 hWF Tt
                have bv_426 := wf_free v_426
                have tq_430 := tp_eq hr_429
                exact py_iret G0 hr rfl hlk hw ⟨⟨by omega, by omega⟩, (by first | omega | (intro q; omega)), (by first | omega | (intro q; omega)), (by first | omega | (intro q; omega)), (by first | exact rs_eqw (hW.trans (rs_af_0 (by omega))) (by omega) (by omega) | exact rs_eq (hW.trans (rs_af_e (by omega) (by omega))) (by omega) (by omega) | exact False.elim (by omega)), hWF, hRP, hKP⟩ dX4_readChain_84
  exact lo_6 _ 0 0 L f _ _ ls rfl ⟨by omega, by omega⟩ hWF hRP hKP hTB (by first | omega | (intros; omega)) (by first | omega | (intros; omega)) (by first | omega | (intros; omega)) (by first | omega | (intros; omega)) (by first | omega | (intros; omega)) (fun hy => (rs_trb_0 (by omega)).trans (by rw [show tp_a f t = pb by omega])) hw (lv_sub hl [0, 1, 2, 3, 4, 5, 6] rfl)
