set_option maxHeartbeats 4000000 in
set_option maxRecDepth 100000 in
theorem k_chain3 (l : Launch) (E : py_E) (G : wf_G) (hG : GT G) (wb : Int) (hwb : 0 ≤ wb) (fr lo : Nat) (hfr : 10 ≤ fr) (hlo : 300 ≤ lo) (f_atom l_atom : Nat) (x_atom : f_atom ≤ fr) (z_atom : l_atom ≤ lo) (ih_atom : P_atom l E G wb f_atom l_atom) : P_chain3 l E G wb (fr + 1) (lo + 60) := by
  intro L f sz h t i b gb nb pb eb hWF Th Tt Bb hp0 hp1 hp2 hp3 hq0
  refine Met.ofW (cc := cX4_readChain) (maxL := 9) (ret := (some .boolean)) (by decide) rfl ?_
  intro p e s m args below meth c s₁ B hml hv
  obtain ⟨rfl, rfl, hw⟩ := py_start hv
  have G0 : CallFix p m c cX4_readChain 9 s _ w_X4_readChain RX4 := ⟨B.exec, B.bytes, hml, findClass_of_methodNamed B.named, atoms_spec (ws := w_X4_readChain) B.pre⟩
  have hr := B.returns
  have hlk := B.notSynchronized
  have kcm1 : (-1 : Int32).toInt = -1 := rfl
  have kc0 : (0 : Int32).toInt = 0 := rfl
  have kc1 : (1 : Int32).toInt = 1 := rfl
  have kc3 : (3 : Int32).toInt = 3 := rfl
  have kc160 : (160 : Int32).toInt = 160 := rfl
  have hl := lv_entry ([.ref h, .ref t, .int 3, .int i, .int b]) (n := 9) (Nat.le_of_ble_eq_true rfl)
  rw [lg_entry_eq]
  generalize (lg_sl ([.ref h, .ref t, .int 3, .int i, .int b]) ++ List.replicate (9 - (lg_sl ([.ref h, .ref t, .int 3, .int i, .int b])).length) Slot.unset).toArray = ls at hl ⊢
  have hl : lv_has ls 9 [(0, .ref h), (1, .ref t), (2, .int 3), (3, .int i), (4, .int b)] := hl
  have hRP : RP E G f f := RP.refl
  have hKP : KP G [9, 4, 20] false f f := KP.refl
  have hTB := hq0
  refine lv_iconst (v := 0) G0.1 G0.2.1 dX4_readChain_0 (by decide) ?_
  refine lv_istore (lv' := [(5, .int 0), (0, .ref h), (1, .ref t), (2, .int 3), (3, .int i), (4, .int b)]) G0.1 G0.2.1 dX4_readChain_1 hl (by decide) rfl (fun ls hl => ?_)
  refine lv_iconst (v := 0) G0.1 G0.2.1 dX4_readChain_3 (by decide) ?_
  refine lv_istore (lv' := [(6, .int 0), (5, .int 0), (0, .ref h), (1, .ref t), (2, .int 3), (3, .int i), (4, .int b)]) G0.1 G0.2.1 dX4_readChain_4 hl (by decide) rfl (fun ls hl => ?_)
  have lo_6 : ∀ n_6 : Nat, ∀ (v_1 : Int32) (v_2 : Int32) (L_j6 : List Nat) (f_j6 : py_F) (H_j6 : Heap) (locs : List Loc) (ls : Array Slot), (2147483647 - v_1.toInt).toNat = n_6 → (0 ≤ v_1.toInt ∧ v_1.toInt ≤ 2147483647) → WF E G L_j6 f_j6 → RP E G f f_j6 → KP G [9, 4, 20] false f f_j6 → gfn f_j6 (G.2 t 0) = gb → (tp_l f_j6 t = nb) → (pb ≤ tp_a f_j6 t) → (2 * v_1.toInt ≤ tp_a f_j6 t) → (1 ≤ v_1.toInt → tp_a f_j6 t ≤ nb) → (v_1.toInt = 0 → tp_a f_j6 t = pb) → ((rs_tm gb nb eb pb) = rs_lp (rs_at gb nb eb) 3 gb nb (tp_a f_j6 t)) → py_W E (va_A (va_pl L f) s.heap.size) s L_j6 f_j6 H_j6 locs → lv_has ls 9 [(6, .int v_1), (5, .int v_2), (0, .ref h), (1, .ref t), (2, .int 3), (3, .int i), (4, .int b)] → W p l e (headSpec w_X4_readChain ({ frames := fr + 1, cells := 0, slots := 0, locals := lo + 60 })).room s m ([.ref h, .ref t, .int 3, .int i, .int b] : List Value).toArray below meth c H_j6 locs 0 0 (MQ below (py_Qi E L f s.heap.size (fun r L1 f1 => (0 ≤ r.toInt ∧ r.toInt ≤ 1) ∧ (tp_l f1 t = nb) ∧ (pb ≤ tp_a f1 t) ∧ (r.toInt ≠ 0 → pb + 1 ≤ tp_a f1 t ∧ tp_a f1 t ≤ nb) ∧ (r.toInt = (rs_tm gb nb eb pb).1 ∧ tp_a f1 t = (rs_tm gb nb eb pb).2) ∧ WF E G L1 f1 ∧ RP E G f f1 ∧ KP G [9, 4, 20] false f f1)) ([.ref h, .ref t, .int 3, .int i, .int b] : List Value).toArray s 0 0 (va_A (va_pl L f) s.heap.size)) (F0 m 6 ls []) := by
    intro n_6
    induction n_6 using Nat.strongRecOn with
    | _ n_6 ih_6 =>
      intro v_1 v_2 L_j6 f_j6 H_j6 locs ls hn_6 bv_1 hWF hRP hKP hTB iv0 iv1 iv2 iv3 iv4 iv5 hw hl
      refine lv_iload G0.1 G0.2.1 dX4_readChain_6 (lv_at hl 0 rfl) ?_
      refine lv_sipush (v := 160) G0.1 G0.2.1 dX4_readChain_8 (by decide) ?_
      refine lv_icmp_ge (tgt := 133) G0.1 G0.2.1 dX4_readChain_11 (by decide) (fun c_3 => ?_) (fun c_3 => ?_)
      · skip
        have tc_3 := ti_le c_3
        refine lv_iconst (v := 0) G0.1 G0.2.1 dX4_readChain_133 (by decide) ?_
        have t_4 := wt_8 hG Tt
        obtain ⟨v_5, v_6, v_7, hr_10, b_8, b_9⟩ := wg_8 hWF Tt
        have bv_7 := wf_free v_7
        have tq_11 := tp_eq hr_10
        exact py_iret G0 hr rfl hlk hw ⟨⟨by omega, by omega⟩, (by first | omega | (intro q; omega)), (by first | omega | (intro q; omega)), (by first | omega | (intro q; omega)), (by first | exact rs_eqw (hW.trans (rs_af_0 (by omega))) (by omega) (by omega) | exact rs_eq (hW.trans (rs_af_e (by omega) (by omega))) (by omega) (by omega) | exact False.elim (by omega)), hWF, hRP, hKP⟩ dX4_readChain_134
      · skip
        have tc_3 := ti_nle c_3
        refine lv_iload G0.1 G0.2.1 dX4_readChain_14 (lv_at hl 6 rfl) ?_
        refine lv_if_eq (tgt := 28) G0.1 G0.2.1 dX4_readChain_16 (by decide) (fun c_12 => ?_) (fun c_12 => ?_)
        · skip
          have tc_12 := ti_eq c_12
          refine lv_iconst (v := 0) G0.1 G0.2.1 dX4_readChain_28 (by decide) ?_
          refine lv_istore (lv' := [(7, .int 0), (6, .int v_1), (5, .int v_2), (0, .ref h), (1, .ref t), (2, .int 3), (3, .int i), (4, .int b)]) G0.1 G0.2.1 dX4_readChain_29 hl (by decide) rfl (fun ls hl => ?_)
          refine lv_iload_n G0.1 G0.2.1 dX4_readChain_31 rfl (lv_at hl 5 rfl) ?_
          refine lv_iconst (v := 1) G0.1 G0.2.1 dX4_readChain_32 (by decide) ?_
          refine lv_icmp_ne (tgt := 49) G0.1 G0.2.1 dX4_readChain_33 (by decide) (fun c_13 => ?_) (fun c_13 => ?_)
          · skip
            have tc_13 := ti_ne c_13
            refine lv_iload_n G0.1 G0.2.1 dX4_readChain_49 rfl (lv_at hl 5 rfl) ?_
            refine lv_iconst (v := 3) G0.1 G0.2.1 dX4_readChain_50 (by decide) ?_
            refine lv_icmp_ne (tgt := 65) G0.1 G0.2.1 dX4_readChain_51 (by decide) (fun c_14 => ?_) (fun c_14 => ?_)
            · skip
              exact absurd c_14 (by decide)
            · skip
              have tc_14 := ti_eq c_14
              refine lv_aload_n G0.1 G0.2.1 dX4_readChain_54 rfl (lv_at hl 3 rfl) ?_
              refine lv_aload_n G0.1 G0.2.1 dX4_readChain_55 rfl (lv_at hl 4 rfl) ?_
              refine lv_iload_n G0.1 G0.2.1 dX4_readChain_56 rfl (lv_at hl 6 rfl) ?_
              obtain ⟨r_15, hr_17, ty_16⟩ := wg_4 hWF Th
              refine py_calli hw (va_runV (As := [.ref t, .int i]) (rest := []) G0 (ih_atom L_j6 f_j6 H_j6.size h t i gb nb (tp_a f_j6 t) eb hWF Th Tt (show wb ≤ i.toInt ∧ i.toInt ≤ 6 by omega) (show i.toInt = 6 - ((eb : Nat) : Int) by omega) (show tp_l f_j6 t = nb ∧ tp_a f_j6 t = (tp_a f_j6 t) by omega) (show 0 ≤ (tp_a f_j6 t) ∧ nb ≤ 160 by omega) hTB) (cwV 2 G0.2.2.2.2 g_X4_readChain_X4_readAtom_58 rfl rfl rfl (by decide +kernel) ⟨(show f_atom + 1 ≤ fr + 1 by omega), (show 8 + (5 + 11) + l_atom ≤ lo + 60 by omega)⟩) (py_preV hw (C := RX4) (T := TX4) (N := 1) rfl hr_17) rfl rfl hl.1 rfl (lv_room (Nat.le_of_ble_eq_true rfl)) dX4_readChain_57 ⟨(Nat.le_of_ble_eq_true rfl), (Nat.le_of_ble_eq_true rfl)⟩) (fun r_22 L_18 f_19 H_20 locs hp_21 hw => ?_)
              obtain ⟨b_27, en_23, en_24, en_25, en_26, hWF, hq_28, kp_29⟩ := hp_21
              have hTB := (gfn_kp (kp_f kp_29 (wt_8 hG Tt) (by decide) (by decide) (fun _ => by decide))).trans hTB
              have hRP := hRP.trans hq_28
              have hKP := hKP.trans kp_29 (by decide) (by decide)
              have hr_17 := kp_at kp_29 hWF Th (by decide) (by decide) (by decide) hr_17
              have hW : (rs_tm gb nb eb pb) = rs_af (rs_at gb nb eb) 3 gb nb (rs_at gb nb eb (tp_a f_j6 t)) := rs_lp_eb iv5 rfl (by omega)
              refine lv_istore (lv' := [(8, .int r_22), (7, .int 0), (6, .int v_1), (5, .int v_2), (0, .ref h), (1, .ref t), (2, .int 3), (3, .int i), (4, .int b)]) G0.1 G0.2.1 dX4_readChain_60 hl (by decide) rfl (fun ls hl => ?_)
              refine lv_goto (tgt := 78) G0.1 G0.2.1 dX4_readChain_62 (by decide) ?_
              refine lv_iload G0.1 G0.2.1 dX4_readChain_78 (lv_at hl 0 rfl) ?_
              refine lv_if_ne (tgt := 85) G0.1 G0.2.1 dX4_readChain_80 (by decide) (fun c_30 => ?_) (fun c_30 => ?_)
              · skip
                have tc_30 := ti_ne c_30
                replace en_25 := en_25 (by omega)
                refine lv_iload G0.1 G0.2.1 dX4_readChain_85 (lv_at hl 2 rfl) ?_
                refine lv_if_le (tgt := 100) G0.1 G0.2.1 dX4_readChain_87 (by decide) (fun c_31 => ?_) (fun c_31 => ?_)
                · skip
                  have tc_31 := ti_le c_31
                  refine lv_aload_n G0.1 G0.2.1 dX4_readChain_100 rfl (lv_at hl 5 rfl) ?_
                  have t_32 := wt_8 hG Tt
                  obtain ⟨v_33, v_34, v_35, hr_38, b_36, b_37⟩ := wg_8 hWF Tt
                  have bv_35 := wf_free v_35
                  have tq_39 := tp_eq hr_38
                  refine py_calli hw (va_runV (As := []) (rest := []) G0 (c_X8_next l E G L_18 f_19 H_20.size t gb nb ((rs_at gb nb eb (tp_a f_j6 t))).2 hG hWF Tt (show tp_l f_19 t = nb ∧ tp_a f_19 t = ((rs_at gb nb eb (tp_a f_j6 t))).2 by omega) (show 0 ≤ ((rs_at gb nb eb (tp_a f_j6 t))).2 ∧ nb ≤ 160 by omega) hTB) (cwV 0 G0.2.2.2.2 g_X4_readChain_X8_next_35 rfl rfl rfl (by decide +kernel) ⟨(show 0 + 1 ≤ fr + 1 by omega), (show 8 + (1 + 11) + 0 ≤ lo + 60 by omega)⟩) (py_preV hw (C := RX8) (T := TX8) (N := 4) rfl hr_38) rfl rfl hl.1 rfl (lv_room (Nat.le_of_ble_eq_true rfl)) dX4_readChain_101 ⟨(Nat.le_of_ble_eq_true rfl), (Nat.le_of_ble_eq_true rfl)⟩) (fun r_44 L_40 f_41 H_42 locs hp_43 hw => ?_)
                  obtain ⟨en_45, en_46, en_47, en_48, en_49, hWF, hq_50, kp_51⟩ := hp_43
                  have hTB := (gfn_kp (kp_f kp_51 (wt_8 hG Tt) (by decide) (by decide) (fun _ => by decide))).trans hTB
                  have hRP := hRP.trans hq_50
                  have hKP := hKP.trans kp_51 (by decide) (by decide)
                  have hr_17 := kp_at kp_51 hWF Th (by decide) (by decide) (by decide) hr_17
                  have br_44 := wf_free r_44
                  refine lv_istore (lv' := [(5, .int r_44), (8, .int r_22), (7, .int 0), (6, .int v_1), (0, .ref h), (1, .ref t), (2, .int 3), (3, .int i), (4, .int b)]) G0.1 G0.2.1 dX4_readChain_104 hl (by decide) rfl (fun ls hl => ?_)
                  refine lv_iload G0.1 G0.2.1 dX4_readChain_106 (lv_at hl 0 rfl) ?_
                  refine py_calli hw (va_runS (As := [.int r_44]) (rest := []) G0 (c_X4_chainOf l E G L_40 f_41 H_42.size r_44 (rs_v gb nb (rs_sk gb nb ((rs_at gb nb eb (tp_a f_j6 t))).2)) hG hWF (show r_44.toInt = (rs_v gb nb (rs_sk gb nb ((rs_at gb nb eb (tp_a f_j6 t))).2)) by omega)) (va_cwS 1 G0.2.2.2.2 g_X4_readChain_X4_chainOf_62 rfl rfl rfl (by decide +kernel) ⟨(show 0 + 1 ≤ fr + 1 by omega), (show 8 + (1 + 11) + 0 ≤ lo + 60 by omega)⟩) (py_preS hw) rfl rfl hl.1 rfl (lv_room (Nat.le_of_ble_eq_true rfl)) dX4_readChain_108 ⟨(Nat.le_of_ble_eq_true rfl), (Nat.le_of_ble_eq_true rfl)⟩) (fun r_56 L_52 f_53 H_54 locs hp_55 hw => ?_)
                  obtain ⟨b_59, en_57, en_58, rfl, rfl⟩ := hp_55
                  refine lv_iload_n G0.1 G0.2.1 dX4_readChain_111 rfl (lv_at hl 6 rfl) ?_
                  refine lv_icmp_eq (tgt := 117) G0.1 G0.2.1 dX4_readChain_112 (by decide) (fun c_60 => ?_) (fun c_60 => ?_)
                  · skip
                    have tc_60 := ti_eq c_60
                    replace en_57 := en_57 (by omega)
                    refine lv_aload_n G0.1 G0.2.1 dX4_readChain_117 rfl (lv_at hl 5 rfl) ?_
                    refine lv_dup G0.1 G0.2.1 dX4_readChain_118 rfl ?_
                    obtain ⟨v_61, v_62, v_63, hr_66, b_64, b_65⟩ := wg_8 hWF Tt
                    have bv_63 := wf_free v_63
                    have tq_67 := tp_eq hr_66
                    refine py_get (C := RX8) (T := TX8) (N := 4) (k := 2) (v := .int v_62) G0 hw in_X4_readChain_X8 rfl hr_66 (by decide) (by decide +kernel) rfl dX4_readChain_119 ?_
                    refine lv_iconst (v := 1) G0.1 G0.2.1 dX4_readChain_122 (by decide) ?_
                    refine lv_iadd G0.1 G0.2.1 dX4_readChain_123 ?_
                    refine lv_topi (fun x_68 ex_68 => ?_)
                    first | have tx_68 := ti_add ex_68 (by omega) (by omega) | skip
                    refine py_put (C := RX8) (T := TX8) (N := 4) (k := 2) (v := .int x_68) (fs' := [.ref (G.2 t 0), .int v_61, .int x_68, .int v_63]) (ty0 := tyX8) G0 hw tyX8_ok nmX8 in_X4_readChain_X8 rfl hr_66 (by decide) (by decide +kernel) rfl rfl rfl rfl (Nat.le_of_ble_eq_true rfl) rfl dX4_readChain_124 (fun f_69 H_70 locs h_71 x_72 hw => ?_)
                    have hTB := (gfn_kp (kp_f (KP.refl.upd hWF x_72 Tt (Or.inl (by decide)) : KP G [9] false f_41 f_69) (wt_8 hG Tt) (by decide) (by decide) (fun _ => by decide))).trans hTB
                    have hKP := hKP.upd hWF x_72 Tt (Or.inl (by decide))
                    have hRP := hRP.trans (rp_upd hG hWF x_72 hr_66.2 h_71.2 (rp_code hG Tt (by decide)) rfl)
                    have hWF := wf_upd hWF h_71 x_72 (by rw [Tt]; exact ⟨v_61, x_68, v_63, rfl, ⟨by omega, by omega⟩, ⟨by omega, by omega⟩⟩)
                    have tq_73 := tp_eq h_71
                    have hr_17 := hr_17.ext x_72 (py_ne_kind hr_17 hr_66 (by decide))
                    obtain ⟨x_74, ex_74⟩ : ∃ y : Int32, y = v_1 + 1 := ⟨_, rfl⟩
                    first | have tx_74 := ti_add ex_74 (by omega) (by omega) | skip
                    refine lv_iinc (v := x_74) (lv' := [(6, .int x_74), (5, .int r_44), (8, .int r_22), (7, .int 0), (0, .ref h), (1, .ref t), (2, .int 3), (3, .int i), (4, .int b)]) G0.1 G0.2.1 dX4_readChain_127 hl (k := 3) rfl (show _ + (1 : Int32) = _ from ex_74.symm) (by decide) rfl (fun ls hl => ?_)
                    refine lv_goto (tgt := 6) G0.1 G0.2.1 dX4_readChain_130 (by decide) ?_
                    exact ih_6 ((2147483647 - x_74.toInt).toNat) (by omega) x_74 r_44 L_40 f_69 _ _ ls rfl ⟨by omega, by omega⟩ hWF hRP hKP hTB (by first | omega | (intros; omega)) (by first | omega | (intros; omega)) (by first | omega | (intros; omega)) (by first | omega | (intros; omega)) (by first | omega | (intros; omega)) (rs_af_on hW (by omega) (by omega) (by omega) (by omega)) hw (lv_sub hl [0, 1, 4, 5, 6, 7, 8] rfl)
                  · skip
                    have tc_60 := ti_ne c_60
                    refine lv_iconst (v := 1) G0.1 G0.2.1 dX4_readChain_115 (by decide) ?_
                    obtain ⟨v_75, v_76, v_77, hr_80, b_78, b_79⟩ := wg_8 hWF Tt
                    have bv_77 := wf_free v_77
                    have tq_81 := tp_eq hr_80
                    exact py_iret G0 hr rfl hlk hw ⟨⟨by omega, by omega⟩, (by first | omega | (intro q; omega)), (by first | omega | (intro q; omega)), (by first | omega | (intro q; omega)), (by first | exact rs_eqw (hW.trans (rs_af_0 (by omega))) (by omega) (by omega) | exact rs_eq (hW.trans (rs_af_e (by omega) (by omega))) (by omega) (by omega) | exact False.elim (by omega)), hWF, hRP, hKP⟩ dX4_readChain_116
                · skip
                  have tc_31 := ti_nle c_31
                  clear iv4
                  refine lv_aload_n G0.1 G0.2.1 dX4_readChain_90 rfl (lv_at hl 4 rfl) ?_
                  refine py_get (C := RX4) (T := TX4) (N := 1) (k := 0) (v := .ref r_15) G0 hw in_X4_readChain_X4 rfl hr_17 (by decide) (by decide +kernel) rfl dX4_readChain_91 ?_
                  refine lv_iload G0.1 G0.2.1 dX4_readChain_94 (lv_at hl 3 rfl) ?_
                  refine lv_iconst (v := 0) G0.1 G0.2.1 dX4_readChain_96 (by decide) ?_
                  obtain ⟨t_82, t_83⟩ := wt_3 hG ty_16
                  obtain ⟨v_84, hr_86, b_85⟩ := wg_3 hWF ty_16
                  have t_87 := wt_8 hG Tt
                  obtain ⟨v_88, v_89, v_90, hr_93, b_91, b_92⟩ := wg_8 hWF Tt
                  have bv_90 := wf_free v_90
                  have tq_94 := tp_eq hr_93
                  refine py_callv hw (va_runV (As := [.int v_2, .int 0]) (rest := []) G0 (c_X3_add l E G L_18 f_19 H_20.size r_15 v_2 0 hG hWF ty_16) (cwV 2 G0.2.2.2.2 g_X4_readChain_X3_add_46 rfl rfl rfl (by decide +kernel) ⟨(show 0 + 1 ≤ fr + 1 by omega), (show 8 + (3 + 11) + 0 ≤ lo + 60 by omega)⟩) (py_preV hw (C := RX3) (T := TX3) (N := 3) rfl hr_86) rfl rfl hl.1 rfl (lv_room (Nat.le_of_ble_eq_true rfl)) dX4_readChain_97 ⟨(Nat.le_of_ble_eq_true rfl), (Nat.le_of_ble_eq_true rfl)⟩) (fun L_95 f_96 H_97 locs hp_98 hw => ?_)
                  obtain ⟨hWF, hq_100, kp_101⟩ := hp_98
                  have hTB := (gfn_kp (kp_f kp_101 (wt_8 hG Tt) (by decide) (by decide) (fun _ => by decide))).trans hTB
                  have hRP := hRP.trans hq_100
                  have hKP := hKP.trans kp_101 (by decide) (by decide)
                  have hr_17 := kp_at kp_101 hWF Th (by decide) (by decide) (by decide) hr_17
                  have hr_93 := kp_at kp_101 hWF Tt (by decide) (by decide) (by decide) hr_93
                  have tq_102 := tp_eq hr_93
                  refine lv_aload_n G0.1 G0.2.1 dX4_readChain_100 rfl (lv_at hl 5 rfl) ?_
                  refine py_calli hw (va_runV (As := []) (rest := []) G0 (c_X8_next l E G L_95 f_96 H_97.size t gb nb ((rs_at gb nb eb (tp_a f_j6 t))).2 hG hWF Tt (show tp_l f_96 t = nb ∧ tp_a f_96 t = ((rs_at gb nb eb (tp_a f_j6 t))).2 by omega) (show 0 ≤ ((rs_at gb nb eb (tp_a f_j6 t))).2 ∧ nb ≤ 160 by omega) hTB) (cwV 0 G0.2.2.2.2 g_X4_readChain_X8_next_35 rfl rfl rfl (by decide +kernel) ⟨(show 0 + 1 ≤ fr + 1 by omega), (show 8 + (1 + 11) + 0 ≤ lo + 60 by omega)⟩) (py_preV hw (C := RX8) (T := TX8) (N := 4) rfl hr_93) rfl rfl hl.1 rfl (lv_room (Nat.le_of_ble_eq_true rfl)) dX4_readChain_101 ⟨(Nat.le_of_ble_eq_true rfl), (Nat.le_of_ble_eq_true rfl)⟩) (fun r_107 L_103 f_104 H_105 locs hp_106 hw => ?_)
                  obtain ⟨en_108, en_109, en_110, en_111, en_112, hWF, hq_113, kp_114⟩ := hp_106
                  have hTB := (gfn_kp (kp_f kp_114 (wt_8 hG Tt) (by decide) (by decide) (fun _ => by decide))).trans hTB
                  have hRP := hRP.trans hq_113
                  have hKP := hKP.trans kp_114 (by decide) (by decide)
                  have hr_17 := kp_at kp_114 hWF Th (by decide) (by decide) (by decide) hr_17
                  have br_107 := wf_free r_107
                  refine lv_istore (lv' := [(5, .int r_107), (8, .int r_22), (7, .int 0), (6, .int v_1), (0, .ref h), (1, .ref t), (2, .int 3), (3, .int i), (4, .int b)]) G0.1 G0.2.1 dX4_readChain_104 hl (by decide) rfl (fun ls hl => ?_)
                  refine lv_iload G0.1 G0.2.1 dX4_readChain_106 (lv_at hl 0 rfl) ?_
                  refine py_calli hw (va_runS (As := [.int r_107]) (rest := []) G0 (c_X4_chainOf l E G L_103 f_104 H_105.size r_107 (rs_v gb nb (rs_sk gb nb ((rs_at gb nb eb (tp_a f_j6 t))).2)) hG hWF (show r_107.toInt = (rs_v gb nb (rs_sk gb nb ((rs_at gb nb eb (tp_a f_j6 t))).2)) by omega)) (va_cwS 1 G0.2.2.2.2 g_X4_readChain_X4_chainOf_62 rfl rfl rfl (by decide +kernel) ⟨(show 0 + 1 ≤ fr + 1 by omega), (show 8 + (1 + 11) + 0 ≤ lo + 60 by omega)⟩) (py_preS hw) rfl rfl hl.1 rfl (lv_room (Nat.le_of_ble_eq_true rfl)) dX4_readChain_108 ⟨(Nat.le_of_ble_eq_true rfl), (Nat.le_of_ble_eq_true rfl)⟩) (fun r_119 L_115 f_116 H_117 locs hp_118 hw => ?_)
                  obtain ⟨b_122, en_120, en_121, rfl, rfl⟩ := hp_118
                  refine lv_iload_n G0.1 G0.2.1 dX4_readChain_111 rfl (lv_at hl 6 rfl) ?_
                  refine lv_icmp_eq (tgt := 117) G0.1 G0.2.1 dX4_readChain_112 (by decide) (fun c_123 => ?_) (fun c_123 => ?_)
                  · skip
                    have tc_123 := ti_eq c_123
                    replace en_120 := en_120 (by omega)
                    refine lv_aload_n G0.1 G0.2.1 dX4_readChain_117 rfl (lv_at hl 5 rfl) ?_
                    refine lv_dup G0.1 G0.2.1 dX4_readChain_118 rfl ?_
                    obtain ⟨v_124, v_125, v_126, hr_129, b_127, b_128⟩ := wg_8 hWF Tt
                    have bv_126 := wf_free v_126
                    have tq_130 := tp_eq hr_129
                    refine py_get (C := RX8) (T := TX8) (N := 4) (k := 2) (v := .int v_125) G0 hw in_X4_readChain_X8 rfl hr_129 (by decide) (by decide +kernel) rfl dX4_readChain_119 ?_
                    refine lv_iconst (v := 1) G0.1 G0.2.1 dX4_readChain_122 (by decide) ?_
                    refine lv_iadd G0.1 G0.2.1 dX4_readChain_123 ?_
                    refine lv_topi (fun x_131 ex_131 => ?_)
                    first | have tx_131 := ti_add ex_131 (by omega) (by omega) | skip
                    refine py_put (C := RX8) (T := TX8) (N := 4) (k := 2) (v := .int x_131) (fs' := [.ref (G.2 t 0), .int v_124, .int x_131, .int v_126]) (ty0 := tyX8) G0 hw tyX8_ok nmX8 in_X4_readChain_X8 rfl hr_129 (by decide) (by decide +kernel) rfl rfl rfl rfl (Nat.le_of_ble_eq_true rfl) rfl dX4_readChain_124 (fun f_132 H_133 locs h_134 x_135 hw => ?_)
                    have hTB := (gfn_kp (kp_f (KP.refl.upd hWF x_135 Tt (Or.inl (by decide)) : KP G [9] false f_104 f_132) (wt_8 hG Tt) (by decide) (by decide) (fun _ => by decide))).trans hTB
                    have hKP := hKP.upd hWF x_135 Tt (Or.inl (by decide))
                    have hRP := hRP.trans (rp_upd hG hWF x_135 hr_129.2 h_134.2 (rp_code hG Tt (by decide)) rfl)
                    have hWF := wf_upd hWF h_134 x_135 (by rw [Tt]; exact ⟨v_124, x_131, v_126, rfl, ⟨by omega, by omega⟩, ⟨by omega, by omega⟩⟩)
                    have tq_136 := tp_eq h_134
                    have hr_17 := hr_17.ext x_135 (py_ne_kind hr_17 hr_129 (by decide))
                    obtain ⟨x_137, ex_137⟩ : ∃ y : Int32, y = v_1 + 1 := ⟨_, rfl⟩
                    first | have tx_137 := ti_add ex_137 (by omega) (by omega) | skip
                    refine lv_iinc (v := x_137) (lv' := [(6, .int x_137), (5, .int r_107), (8, .int r_22), (7, .int 0), (0, .ref h), (1, .ref t), (2, .int 3), (3, .int i), (4, .int b)]) G0.1 G0.2.1 dX4_readChain_127 hl (k := 3) rfl (show _ + (1 : Int32) = _ from ex_137.symm) (by decide) rfl (fun ls hl => ?_)
                    refine lv_goto (tgt := 6) G0.1 G0.2.1 dX4_readChain_130 (by decide) ?_
                    exact ih_6 ((2147483647 - x_137.toInt).toNat) (by omega) x_137 r_107 L_103 f_132 _ _ ls rfl ⟨by omega, by omega⟩ hWF hRP hKP hTB (by first | omega | (intros; omega)) (by first | omega | (intros; omega)) (by first | omega | (intros; omega)) (by first | omega | (intros; omega)) (by first | omega | (intros; omega)) (rs_af_on hW (by omega) (by omega) (by omega) (by omega)) hw (lv_sub hl [0, 1, 4, 5, 6, 7, 8] rfl)
                  · skip
                    have tc_123 := ti_ne c_123
                    refine lv_iconst (v := 1) G0.1 G0.2.1 dX4_readChain_115 (by decide) ?_
                    obtain ⟨v_138, v_139, v_140, hr_143, b_141, b_142⟩ := wg_8 hWF Tt
                    have bv_140 := wf_free v_140
                    have tq_144 := tp_eq hr_143
                    exact py_iret G0 hr rfl hlk hw ⟨⟨by omega, by omega⟩, (by first | omega | (intro q; omega)), (by first | omega | (intro q; omega)), (by first | omega | (intro q; omega)), (by first | exact rs_eqw (hW.trans (rs_af_0 (by omega))) (by omega) (by omega) | exact rs_eq (hW.trans (rs_af_e (by omega) (by omega))) (by omega) (by omega) | exact False.elim (by omega)), hWF, hRP, hKP⟩ dX4_readChain_116
              · skip
                have tc_30 := ti_eq c_30
                clear en_25
                refine lv_iconst (v := 0) G0.1 G0.2.1 dX4_readChain_83 (by decide) ?_
                have t_145 := wt_8 hG Tt
                obtain ⟨v_146, v_147, v_148, hr_151, b_149, b_150⟩ := wg_8 hWF Tt
                have bv_148 := wf_free v_148
                have tq_152 := tp_eq hr_151
                exact py_iret G0 hr rfl hlk hw ⟨⟨by omega, by omega⟩, (by first | omega | (intro q; omega)), (by first | omega | (intro q; omega)), (by first | omega | (intro q; omega)), (by first | exact rs_eqw (hW.trans (rs_af_0 (by omega))) (by omega) (by omega) | exact rs_eq (hW.trans (rs_af_e (by omega) (by omega))) (by omega) (by omega) | exact False.elim (by omega)), hWF, hRP, hKP⟩ dX4_readChain_84
          · skip
            exact absurd c_13 (by decide)
        · skip
          have tc_12 := ti_ne c_12
          refine lv_iload G0.1 G0.2.1 dX4_readChain_19 (lv_at hl 0 rfl) ?_
          refine lv_if_ne (tgt := 28) G0.1 G0.2.1 dX4_readChain_21 (by decide) (fun c_153 => ?_) (fun c_153 => ?_)
          · skip
            have tc_153 := ti_ne c_153
            clear iv4
            refine lv_iconst (v := 0) G0.1 G0.2.1 dX4_readChain_28 (by decide) ?_
            refine lv_istore (lv' := [(7, .int 0), (6, .int v_1), (5, .int v_2), (0, .ref h), (1, .ref t), (2, .int 3), (3, .int i), (4, .int b)]) G0.1 G0.2.1 dX4_readChain_29 hl (by decide) rfl (fun ls hl => ?_)
            refine lv_iload_n G0.1 G0.2.1 dX4_readChain_31 rfl (lv_at hl 5 rfl) ?_
            refine lv_iconst (v := 1) G0.1 G0.2.1 dX4_readChain_32 (by decide) ?_
            refine lv_icmp_ne (tgt := 49) G0.1 G0.2.1 dX4_readChain_33 (by decide) (fun c_154 => ?_) (fun c_154 => ?_)
            · skip
              have tc_154 := ti_ne c_154
              refine lv_iload_n G0.1 G0.2.1 dX4_readChain_49 rfl (lv_at hl 5 rfl) ?_
              refine lv_iconst (v := 3) G0.1 G0.2.1 dX4_readChain_50 (by decide) ?_
              refine lv_icmp_ne (tgt := 65) G0.1 G0.2.1 dX4_readChain_51 (by decide) (fun c_155 => ?_) (fun c_155 => ?_)
              · skip
                exact absurd c_155 (by decide)
              · skip
                have tc_155 := ti_eq c_155
                refine lv_aload_n G0.1 G0.2.1 dX4_readChain_54 rfl (lv_at hl 3 rfl) ?_
                refine lv_aload_n G0.1 G0.2.1 dX4_readChain_55 rfl (lv_at hl 4 rfl) ?_
                refine lv_iload_n G0.1 G0.2.1 dX4_readChain_56 rfl (lv_at hl 6 rfl) ?_
                obtain ⟨r_156, hr_158, ty_157⟩ := wg_4 hWF Th
                refine py_calli hw (va_runV (As := [.ref t, .int i]) (rest := []) G0 (ih_atom L_j6 f_j6 H_j6.size h t i gb nb (tp_a f_j6 t) eb hWF Th Tt (show wb ≤ i.toInt ∧ i.toInt ≤ 6 by omega) (show i.toInt = 6 - ((eb : Nat) : Int) by omega) (show tp_l f_j6 t = nb ∧ tp_a f_j6 t = (tp_a f_j6 t) by omega) (show 0 ≤ (tp_a f_j6 t) ∧ nb ≤ 160 by omega) hTB) (cwV 2 G0.2.2.2.2 g_X4_readChain_X4_readAtom_58 rfl rfl rfl (by decide +kernel) ⟨(show f_atom + 1 ≤ fr + 1 by omega), (show 8 + (5 + 11) + l_atom ≤ lo + 60 by omega)⟩) (py_preV hw (C := RX4) (T := TX4) (N := 1) rfl hr_158) rfl rfl hl.1 rfl (lv_room (Nat.le_of_ble_eq_true rfl)) dX4_readChain_57 ⟨(Nat.le_of_ble_eq_true rfl), (Nat.le_of_ble_eq_true rfl)⟩) (fun r_163 L_159 f_160 H_161 locs hp_162 hw => ?_)
                obtain ⟨b_168, en_164, en_165, en_166, en_167, hWF, hq_169, kp_170⟩ := hp_162
                have hTB := (gfn_kp (kp_f kp_170 (wt_8 hG Tt) (by decide) (by decide) (fun _ => by decide))).trans hTB
                have hRP := hRP.trans hq_169
                have hKP := hKP.trans kp_170 (by decide) (by decide)
                have hr_158 := kp_at kp_170 hWF Th (by decide) (by decide) (by decide) hr_158
                have hW : (rs_tm gb nb eb pb) = rs_af (rs_at gb nb eb) 3 gb nb (rs_at gb nb eb (tp_a f_j6 t)) := rs_lp_eb iv5 rfl (by omega)
                refine lv_istore (lv' := [(8, .int r_163), (7, .int 0), (6, .int v_1), (5, .int v_2), (0, .ref h), (1, .ref t), (2, .int 3), (3, .int i), (4, .int b)]) G0.1 G0.2.1 dX4_readChain_60 hl (by decide) rfl (fun ls hl => ?_)
                refine lv_goto (tgt := 78) G0.1 G0.2.1 dX4_readChain_62 (by decide) ?_
                refine lv_iload G0.1 G0.2.1 dX4_readChain_78 (lv_at hl 0 rfl) ?_
                refine lv_if_ne (tgt := 85) G0.1 G0.2.1 dX4_readChain_80 (by decide) (fun c_171 => ?_) (fun c_171 => ?_)
                · skip
                  have tc_171 := ti_ne c_171
                  replace en_166 := en_166 (by omega)
                  refine lv_iload G0.1 G0.2.1 dX4_readChain_85 (lv_at hl 2 rfl) ?_
                  refine lv_if_le (tgt := 100) G0.1 G0.2.1 dX4_readChain_87 (by decide) (fun c_172 => ?_) (fun c_172 => ?_)
                  · skip
                    have tc_172 := ti_le c_172
                    refine lv_aload_n G0.1 G0.2.1 dX4_readChain_100 rfl (lv_at hl 5 rfl) ?_
                    have t_173 := wt_8 hG Tt
                    obtain ⟨v_174, v_175, v_176, hr_179, b_177, b_178⟩ := wg_8 hWF Tt
                    have bv_176 := wf_free v_176
                    have tq_180 := tp_eq hr_179
                    refine py_calli hw (va_runV (As := []) (rest := []) G0 (c_X8_next l E G L_159 f_160 H_161.size t gb nb ((rs_at gb nb eb (tp_a f_j6 t))).2 hG hWF Tt (show tp_l f_160 t = nb ∧ tp_a f_160 t = ((rs_at gb nb eb (tp_a f_j6 t))).2 by omega) (show 0 ≤ ((rs_at gb nb eb (tp_a f_j6 t))).2 ∧ nb ≤ 160 by omega) hTB) (cwV 0 G0.2.2.2.2 g_X4_readChain_X8_next_35 rfl rfl rfl (by decide +kernel) ⟨(show 0 + 1 ≤ fr + 1 by omega), (show 8 + (1 + 11) + 0 ≤ lo + 60 by omega)⟩) (py_preV hw (C := RX8) (T := TX8) (N := 4) rfl hr_179) rfl rfl hl.1 rfl (lv_room (Nat.le_of_ble_eq_true rfl)) dX4_readChain_101 ⟨(Nat.le_of_ble_eq_true rfl), (Nat.le_of_ble_eq_true rfl)⟩) (fun r_185 L_181 f_182 H_183 locs hp_184 hw => ?_)
                    obtain ⟨en_186, en_187, en_188, en_189, en_190, hWF, hq_191, kp_192⟩ := hp_184
                    have hTB := (gfn_kp (kp_f kp_192 (wt_8 hG Tt) (by decide) (by decide) (fun _ => by decide))).trans hTB
                    have hRP := hRP.trans hq_191
                    have hKP := hKP.trans kp_192 (by decide) (by decide)
                    have hr_158 := kp_at kp_192 hWF Th (by decide) (by decide) (by decide) hr_158
                    have br_185 := wf_free r_185
                    refine lv_istore (lv' := [(5, .int r_185), (8, .int r_163), (7, .int 0), (6, .int v_1), (0, .ref h), (1, .ref t), (2, .int 3), (3, .int i), (4, .int b)]) G0.1 G0.2.1 dX4_readChain_104 hl (by decide) rfl (fun ls hl => ?_)
                    refine lv_iload G0.1 G0.2.1 dX4_readChain_106 (lv_at hl 0 rfl) ?_
                    refine py_calli hw (va_runS (As := [.int r_185]) (rest := []) G0 (c_X4_chainOf l E G L_181 f_182 H_183.size r_185 (rs_v gb nb (rs_sk gb nb ((rs_at gb nb eb (tp_a f_j6 t))).2)) hG hWF (show r_185.toInt = (rs_v gb nb (rs_sk gb nb ((rs_at gb nb eb (tp_a f_j6 t))).2)) by omega)) (va_cwS 1 G0.2.2.2.2 g_X4_readChain_X4_chainOf_62 rfl rfl rfl (by decide +kernel) ⟨(show 0 + 1 ≤ fr + 1 by omega), (show 8 + (1 + 11) + 0 ≤ lo + 60 by omega)⟩) (py_preS hw) rfl rfl hl.1 rfl (lv_room (Nat.le_of_ble_eq_true rfl)) dX4_readChain_108 ⟨(Nat.le_of_ble_eq_true rfl), (Nat.le_of_ble_eq_true rfl)⟩) (fun r_197 L_193 f_194 H_195 locs hp_196 hw => ?_)
                    obtain ⟨b_200, en_198, en_199, rfl, rfl⟩ := hp_196
                    refine lv_iload_n G0.1 G0.2.1 dX4_readChain_111 rfl (lv_at hl 6 rfl) ?_
                    refine lv_icmp_eq (tgt := 117) G0.1 G0.2.1 dX4_readChain_112 (by decide) (fun c_201 => ?_) (fun c_201 => ?_)
                    · skip
                      have tc_201 := ti_eq c_201
                      replace en_198 := en_198 (by omega)
                      refine lv_aload_n G0.1 G0.2.1 dX4_readChain_117 rfl (lv_at hl 5 rfl) ?_
                      refine lv_dup G0.1 G0.2.1 dX4_readChain_118 rfl ?_
                      obtain ⟨v_202, v_203, v_204, hr_207, b_205, b_206⟩ := wg_8 hWF Tt
                      have bv_204 := wf_free v_204
                      have tq_208 := tp_eq hr_207
                      refine py_get (C := RX8) (T := TX8) (N := 4) (k := 2) (v := .int v_203) G0 hw in_X4_readChain_X8 rfl hr_207 (by decide) (by decide +kernel) rfl dX4_readChain_119 ?_
                      refine lv_iconst (v := 1) G0.1 G0.2.1 dX4_readChain_122 (by decide) ?_
                      refine lv_iadd G0.1 G0.2.1 dX4_readChain_123 ?_
                      refine lv_topi (fun x_209 ex_209 => ?_)
                      first | have tx_209 := ti_add ex_209 (by omega) (by omega) | skip
                      refine py_put (C := RX8) (T := TX8) (N := 4) (k := 2) (v := .int x_209) (fs' := [.ref (G.2 t 0), .int v_202, .int x_209, .int v_204]) (ty0 := tyX8) G0 hw tyX8_ok nmX8 in_X4_readChain_X8 rfl hr_207 (by decide) (by decide +kernel) rfl rfl rfl rfl (Nat.le_of_ble_eq_true rfl) rfl dX4_readChain_124 (fun f_210 H_211 locs h_212 x_213 hw => ?_)
                      have hTB := (gfn_kp (kp_f (KP.refl.upd hWF x_213 Tt (Or.inl (by decide)) : KP G [9] false f_182 f_210) (wt_8 hG Tt) (by decide) (by decide) (fun _ => by decide))).trans hTB
                      have hKP := hKP.upd hWF x_213 Tt (Or.inl (by decide))
                      have hRP := hRP.trans (rp_upd hG hWF x_213 hr_207.2 h_212.2 (rp_code hG Tt (by decide)) rfl)
                      have hWF := wf_upd hWF h_212 x_213 (by rw [Tt]; exact ⟨v_202, x_209, v_204, rfl, ⟨by omega, by omega⟩, ⟨by omega, by omega⟩⟩)
                      have tq_214 := tp_eq h_212
                      have hr_158 := hr_158.ext x_213 (py_ne_kind hr_158 hr_207 (by decide))
                      obtain ⟨x_215, ex_215⟩ : ∃ y : Int32, y = v_1 + 1 := ⟨_, rfl⟩
                      first | have tx_215 := ti_add ex_215 (by omega) (by omega) | skip
                      refine lv_iinc (v := x_215) (lv' := [(6, .int x_215), (5, .int r_185), (8, .int r_163), (7, .int 0), (0, .ref h), (1, .ref t), (2, .int 3), (3, .int i), (4, .int b)]) G0.1 G0.2.1 dX4_readChain_127 hl (k := 3) rfl (show _ + (1 : Int32) = _ from ex_215.symm) (by decide) rfl (fun ls hl => ?_)
                      refine lv_goto (tgt := 6) G0.1 G0.2.1 dX4_readChain_130 (by decide) ?_
                      exact ih_6 ((2147483647 - x_215.toInt).toNat) (by omega) x_215 r_185 L_181 f_210 _ _ ls rfl ⟨by omega, by omega⟩ hWF hRP hKP hTB (by first | omega | (intros; omega)) (by first | omega | (intros; omega)) (by first | omega | (intros; omega)) (by first | omega | (intros; omega)) (by first | omega | (intros; omega)) (rs_af_on hW (by omega) (by omega) (by omega) (by omega)) hw (lv_sub hl [0, 1, 4, 5, 6, 7, 8] rfl)
                    · skip
                      have tc_201 := ti_ne c_201
                      refine lv_iconst (v := 1) G0.1 G0.2.1 dX4_readChain_115 (by decide) ?_
                      obtain ⟨v_216, v_217, v_218, hr_221, b_219, b_220⟩ := wg_8 hWF Tt
                      have bv_218 := wf_free v_218
                      have tq_222 := tp_eq hr_221
                      exact py_iret G0 hr rfl hlk hw ⟨⟨by omega, by omega⟩, (by first | omega | (intro q; omega)), (by first | omega | (intro q; omega)), (by first | omega | (intro q; omega)), (by first | exact rs_eqw (hW.trans (rs_af_0 (by omega))) (by omega) (by omega) | exact rs_eq (hW.trans (rs_af_e (by omega) (by omega))) (by omega) (by omega) | exact False.elim (by omega)), hWF, hRP, hKP⟩ dX4_readChain_116
                  · skip
                    have tc_172 := ti_nle c_172
                    refine lv_aload_n G0.1 G0.2.1 dX4_readChain_90 rfl (lv_at hl 4 rfl) ?_
                    refine py_get (C := RX4) (T := TX4) (N := 1) (k := 0) (v := .ref r_156) G0 hw in_X4_readChain_X4 rfl hr_158 (by decide) (by decide +kernel) rfl dX4_readChain_91 ?_
                    refine lv_iload G0.1 G0.2.1 dX4_readChain_94 (lv_at hl 3 rfl) ?_
                    refine lv_iconst (v := 0) G0.1 G0.2.1 dX4_readChain_96 (by decide) ?_
                    obtain ⟨t_223, t_224⟩ := wt_3 hG ty_157
                    obtain ⟨v_225, hr_227, b_226⟩ := wg_3 hWF ty_157
                    have t_228 := wt_8 hG Tt
                    obtain ⟨v_229, v_230, v_231, hr_234, b_232, b_233⟩ := wg_8 hWF Tt
                    have bv_231 := wf_free v_231
                    have tq_235 := tp_eq hr_234
                    refine py_callv hw (va_runV (As := [.int v_2, .int 0]) (rest := []) G0 (c_X3_add l E G L_159 f_160 H_161.size r_156 v_2 0 hG hWF ty_157) (cwV 2 G0.2.2.2.2 g_X4_readChain_X3_add_46 rfl rfl rfl (by decide +kernel) ⟨(show 0 + 1 ≤ fr + 1 by omega), (show 8 + (3 + 11) + 0 ≤ lo + 60 by omega)⟩) (py_preV hw (C := RX3) (T := TX3) (N := 3) rfl hr_227) rfl rfl hl.1 rfl (lv_room (Nat.le_of_ble_eq_true rfl)) dX4_readChain_97 ⟨(Nat.le_of_ble_eq_true rfl), (Nat.le_of_ble_eq_true rfl)⟩) (fun L_236 f_237 H_238 locs hp_239 hw => ?_)
                    obtain ⟨hWF, hq_241, kp_242⟩ := hp_239
                    have hTB := (gfn_kp (kp_f kp_242 (wt_8 hG Tt) (by decide) (by decide) (fun _ => by decide))).trans hTB
                    have hRP := hRP.trans hq_241
                    have hKP := hKP.trans kp_242 (by decide) (by decide)
                    have hr_158 := kp_at kp_242 hWF Th (by decide) (by decide) (by decide) hr_158
                    have hr_234 := kp_at kp_242 hWF Tt (by decide) (by decide) (by decide) hr_234
                    have tq_243 := tp_eq hr_234
                    refine lv_aload_n G0.1 G0.2.1 dX4_readChain_100 rfl (lv_at hl 5 rfl) ?_
                    refine py_calli hw (va_runV (As := []) (rest := []) G0 (c_X8_next l E G L_236 f_237 H_238.size t gb nb ((rs_at gb nb eb (tp_a f_j6 t))).2 hG hWF Tt (show tp_l f_237 t = nb ∧ tp_a f_237 t = ((rs_at gb nb eb (tp_a f_j6 t))).2 by omega) (show 0 ≤ ((rs_at gb nb eb (tp_a f_j6 t))).2 ∧ nb ≤ 160 by omega) hTB) (cwV 0 G0.2.2.2.2 g_X4_readChain_X8_next_35 rfl rfl rfl (by decide +kernel) ⟨(show 0 + 1 ≤ fr + 1 by omega), (show 8 + (1 + 11) + 0 ≤ lo + 60 by omega)⟩) (py_preV hw (C := RX8) (T := TX8) (N := 4) rfl hr_234) rfl rfl hl.1 rfl (lv_room (Nat.le_of_ble_eq_true rfl)) dX4_readChain_101 ⟨(Nat.le_of_ble_eq_true rfl), (Nat.le_of_ble_eq_true rfl)⟩) (fun r_248 L_244 f_245 H_246 locs hp_247 hw => ?_)
                    obtain ⟨en_249, en_250, en_251, en_252, en_253, hWF, hq_254, kp_255⟩ := hp_247
                    have hTB := (gfn_kp (kp_f kp_255 (wt_8 hG Tt) (by decide) (by decide) (fun _ => by decide))).trans hTB
                    have hRP := hRP.trans hq_254
                    have hKP := hKP.trans kp_255 (by decide) (by decide)
                    have hr_158 := kp_at kp_255 hWF Th (by decide) (by decide) (by decide) hr_158
                    have br_248 := wf_free r_248
                    refine lv_istore (lv' := [(5, .int r_248), (8, .int r_163), (7, .int 0), (6, .int v_1), (0, .ref h), (1, .ref t), (2, .int 3), (3, .int i), (4, .int b)]) G0.1 G0.2.1 dX4_readChain_104 hl (by decide) rfl (fun ls hl => ?_)
                    refine lv_iload G0.1 G0.2.1 dX4_readChain_106 (lv_at hl 0 rfl) ?_
                    refine py_calli hw (va_runS (As := [.int r_248]) (rest := []) G0 (c_X4_chainOf l E G L_244 f_245 H_246.size r_248 (rs_v gb nb (rs_sk gb nb ((rs_at gb nb eb (tp_a f_j6 t))).2)) hG hWF (show r_248.toInt = (rs_v gb nb (rs_sk gb nb ((rs_at gb nb eb (tp_a f_j6 t))).2)) by omega)) (va_cwS 1 G0.2.2.2.2 g_X4_readChain_X4_chainOf_62 rfl rfl rfl (by decide +kernel) ⟨(show 0 + 1 ≤ fr + 1 by omega), (show 8 + (1 + 11) + 0 ≤ lo + 60 by omega)⟩) (py_preS hw) rfl rfl hl.1 rfl (lv_room (Nat.le_of_ble_eq_true rfl)) dX4_readChain_108 ⟨(Nat.le_of_ble_eq_true rfl), (Nat.le_of_ble_eq_true rfl)⟩) (fun r_260 L_256 f_257 H_258 locs hp_259 hw => ?_)
                    obtain ⟨b_263, en_261, en_262, rfl, rfl⟩ := hp_259
                    refine lv_iload_n G0.1 G0.2.1 dX4_readChain_111 rfl (lv_at hl 6 rfl) ?_
                    refine lv_icmp_eq (tgt := 117) G0.1 G0.2.1 dX4_readChain_112 (by decide) (fun c_264 => ?_) (fun c_264 => ?_)
                    · skip
                      have tc_264 := ti_eq c_264
                      replace en_261 := en_261 (by omega)
                      refine lv_aload_n G0.1 G0.2.1 dX4_readChain_117 rfl (lv_at hl 5 rfl) ?_
                      refine lv_dup G0.1 G0.2.1 dX4_readChain_118 rfl ?_
                      obtain ⟨v_265, v_266, v_267, hr_270, b_268, b_269⟩ := wg_8 hWF Tt
                      have bv_267 := wf_free v_267
                      have tq_271 := tp_eq hr_270
                      refine py_get (C := RX8) (T := TX8) (N := 4) (k := 2) (v := .int v_266) G0 hw in_X4_readChain_X8 rfl hr_270 (by decide) (by decide +kernel) rfl dX4_readChain_119 ?_
                      refine lv_iconst (v := 1) G0.1 G0.2.1 dX4_readChain_122 (by decide) ?_
                      refine lv_iadd G0.1 G0.2.1 dX4_readChain_123 ?_
                      refine lv_topi (fun x_272 ex_272 => ?_)
                      first | have tx_272 := ti_add ex_272 (by omega) (by omega) | skip
                      refine py_put (C := RX8) (T := TX8) (N := 4) (k := 2) (v := .int x_272) (fs' := [.ref (G.2 t 0), .int v_265, .int x_272, .int v_267]) (ty0 := tyX8) G0 hw tyX8_ok nmX8 in_X4_readChain_X8 rfl hr_270 (by decide) (by decide +kernel) rfl rfl rfl rfl (Nat.le_of_ble_eq_true rfl) rfl dX4_readChain_124 (fun f_273 H_274 locs h_275 x_276 hw => ?_)
                      have hTB := (gfn_kp (kp_f (KP.refl.upd hWF x_276 Tt (Or.inl (by decide)) : KP G [9] false f_245 f_273) (wt_8 hG Tt) (by decide) (by decide) (fun _ => by decide))).trans hTB
                      have hKP := hKP.upd hWF x_276 Tt (Or.inl (by decide))
                      have hRP := hRP.trans (rp_upd hG hWF x_276 hr_270.2 h_275.2 (rp_code hG Tt (by decide)) rfl)
                      have hWF := wf_upd hWF h_275 x_276 (by rw [Tt]; exact ⟨v_265, x_272, v_267, rfl, ⟨by omega, by omega⟩, ⟨by omega, by omega⟩⟩)
                      have tq_277 := tp_eq h_275
                      have hr_158 := hr_158.ext x_276 (py_ne_kind hr_158 hr_270 (by decide))
                      obtain ⟨x_278, ex_278⟩ : ∃ y : Int32, y = v_1 + 1 := ⟨_, rfl⟩
                      first | have tx_278 := ti_add ex_278 (by omega) (by omega) | skip
                      refine lv_iinc (v := x_278) (lv' := [(6, .int x_278), (5, .int r_248), (8, .int r_163), (7, .int 0), (0, .ref h), (1, .ref t), (2, .int 3), (3, .int i), (4, .int b)]) G0.1 G0.2.1 dX4_readChain_127 hl (k := 3) rfl (show _ + (1 : Int32) = _ from ex_278.symm) (by decide) rfl (fun ls hl => ?_)
                      refine lv_goto (tgt := 6) G0.1 G0.2.1 dX4_readChain_130 (by decide) ?_
                      exact ih_6 ((2147483647 - x_278.toInt).toNat) (by omega) x_278 r_248 L_244 f_273 _ _ ls rfl ⟨by omega, by omega⟩ hWF hRP hKP hTB (by first | omega | (intros; omega)) (by first | omega | (intros; omega)) (by first | omega | (intros; omega)) (by first | omega | (intros; omega)) (by first | omega | (intros; omega)) (rs_af_on hW (by omega) (by omega) (by omega) (by omega)) hw (lv_sub hl [0, 1, 4, 5, 6, 7, 8] rfl)
                    · skip
                      have tc_264 := ti_ne c_264
                      refine lv_iconst (v := 1) G0.1 G0.2.1 dX4_readChain_115 (by decide) ?_
                      obtain ⟨v_279, v_280, v_281, hr_284, b_282, b_283⟩ := wg_8 hWF Tt
                      have bv_281 := wf_free v_281
                      have tq_285 := tp_eq hr_284
                      exact py_iret G0 hr rfl hlk hw ⟨⟨by omega, by omega⟩, (by first | omega | (intro q; omega)), (by first | omega | (intro q; omega)), (by first | omega | (intro q; omega)), (by first | exact rs_eqw (hW.trans (rs_af_0 (by omega))) (by omega) (by omega) | exact rs_eq (hW.trans (rs_af_e (by omega) (by omega))) (by omega) (by omega) | exact False.elim (by omega)), hWF, hRP, hKP⟩ dX4_readChain_116
                · skip
                  have tc_171 := ti_eq c_171
                  clear en_166
                  refine lv_iconst (v := 0) G0.1 G0.2.1 dX4_readChain_83 (by decide) ?_
                  have t_286 := wt_8 hG Tt
                  obtain ⟨v_287, v_288, v_289, hr_292, b_290, b_291⟩ := wg_8 hWF Tt
                  have bv_289 := wf_free v_289
                  have tq_293 := tp_eq hr_292
                  exact py_iret G0 hr rfl hlk hw ⟨⟨by omega, by omega⟩, (by first | omega | (intro q; omega)), (by first | omega | (intro q; omega)), (by first | omega | (intro q; omega)), (by first | exact rs_eqw (hW.trans (rs_af_0 (by omega))) (by omega) (by omega) | exact rs_eq (hW.trans (rs_af_e (by omega) (by omega))) (by omega) (by omega) | exact False.elim (by omega)), hWF, hRP, hKP⟩ dX4_readChain_84
            · skip
              exact absurd c_154 (by decide)
          · skip
            have tc_153 := ti_eq c_153
            replace iv4 := iv4 (by omega)
            refine lv_iconst (v := 1) G0.1 G0.2.1 dX4_readChain_24 (by decide) ?_
            refine lv_goto (tgt := 29) G0.1 G0.2.1 dX4_readChain_25 (by decide) ?_
            refine lv_istore (lv' := [(7, .int 1), (6, .int v_1), (5, .int v_2), (0, .ref h), (1, .ref t), (2, .int 3), (3, .int i), (4, .int b)]) G0.1 G0.2.1 dX4_readChain_29 hl (by decide) rfl (fun ls hl => ?_)
            refine lv_iload_n G0.1 G0.2.1 dX4_readChain_31 rfl (lv_at hl 5 rfl) ?_
            refine lv_iconst (v := 1) G0.1 G0.2.1 dX4_readChain_32 (by decide) ?_
            refine lv_icmp_ne (tgt := 49) G0.1 G0.2.1 dX4_readChain_33 (by decide) (fun c_294 => ?_) (fun c_294 => ?_)
            · skip
              have tc_294 := ti_ne c_294
              refine lv_iload_n G0.1 G0.2.1 dX4_readChain_49 rfl (lv_at hl 5 rfl) ?_
              refine lv_iconst (v := 3) G0.1 G0.2.1 dX4_readChain_50 (by decide) ?_
              refine lv_icmp_ne (tgt := 65) G0.1 G0.2.1 dX4_readChain_51 (by decide) (fun c_295 => ?_) (fun c_295 => ?_)
              · skip
                exact absurd c_295 (by decide)
              · skip
                have tc_295 := ti_eq c_295
                refine lv_aload_n G0.1 G0.2.1 dX4_readChain_54 rfl (lv_at hl 3 rfl) ?_
                refine lv_aload_n G0.1 G0.2.1 dX4_readChain_55 rfl (lv_at hl 4 rfl) ?_
                refine lv_iload_n G0.1 G0.2.1 dX4_readChain_56 rfl (lv_at hl 6 rfl) ?_
                obtain ⟨r_296, hr_298, ty_297⟩ := wg_4 hWF Th
                refine py_calli hw (va_runV (As := [.ref t, .int i]) (rest := []) G0 (ih_atom L_j6 f_j6 H_j6.size h t i gb nb (tp_a f_j6 t) eb hWF Th Tt (show wb ≤ i.toInt ∧ i.toInt ≤ 6 by omega) (show i.toInt = 6 - ((eb : Nat) : Int) by omega) (show tp_l f_j6 t = nb ∧ tp_a f_j6 t = (tp_a f_j6 t) by omega) (show 0 ≤ (tp_a f_j6 t) ∧ nb ≤ 160 by omega) hTB) (cwV 2 G0.2.2.2.2 g_X4_readChain_X4_readAtom_58 rfl rfl rfl (by decide +kernel) ⟨(show f_atom + 1 ≤ fr + 1 by omega), (show 8 + (5 + 11) + l_atom ≤ lo + 60 by omega)⟩) (py_preV hw (C := RX4) (T := TX4) (N := 1) rfl hr_298) rfl rfl hl.1 rfl (lv_room (Nat.le_of_ble_eq_true rfl)) dX4_readChain_57 ⟨(Nat.le_of_ble_eq_true rfl), (Nat.le_of_ble_eq_true rfl)⟩) (fun r_303 L_299 f_300 H_301 locs hp_302 hw => ?_)
                obtain ⟨b_308, en_304, en_305, en_306, en_307, hWF, hq_309, kp_310⟩ := hp_302
                have hTB := (gfn_kp (kp_f kp_310 (wt_8 hG Tt) (by decide) (by decide) (fun _ => by decide))).trans hTB
                have hRP := hRP.trans hq_309
                have hKP := hKP.trans kp_310 (by decide) (by decide)
                have hr_298 := kp_at kp_310 hWF Th (by decide) (by decide) (by decide) hr_298
                have hW : (rs_tm gb nb eb pb) = rs_af (rs_at gb nb eb) 3 gb nb (rs_at gb nb eb (tp_a f_j6 t)) := rs_lp_eb iv5 rfl (by omega)
                refine lv_istore (lv' := [(8, .int r_303), (7, .int 1), (6, .int v_1), (5, .int v_2), (0, .ref h), (1, .ref t), (2, .int 3), (3, .int i), (4, .int b)]) G0.1 G0.2.1 dX4_readChain_60 hl (by decide) rfl (fun ls hl => ?_)
                refine lv_goto (tgt := 78) G0.1 G0.2.1 dX4_readChain_62 (by decide) ?_
                refine lv_iload G0.1 G0.2.1 dX4_readChain_78 (lv_at hl 0 rfl) ?_
                refine lv_if_ne (tgt := 85) G0.1 G0.2.1 dX4_readChain_80 (by decide) (fun c_311 => ?_) (fun c_311 => ?_)
                · skip
                  have tc_311 := ti_ne c_311
                  replace en_306 := en_306 (by omega)
                  refine lv_iload G0.1 G0.2.1 dX4_readChain_85 (lv_at hl 2 rfl) ?_
                  refine lv_if_le (tgt := 100) G0.1 G0.2.1 dX4_readChain_87 (by decide) (fun c_312 => ?_) (fun c_312 => ?_)
                  · skip
                    have tc_312 := ti_le c_312
                    refine lv_aload_n G0.1 G0.2.1 dX4_readChain_100 rfl (lv_at hl 5 rfl) ?_
                    have t_313 := wt_8 hG Tt
                    obtain ⟨v_314, v_315, v_316, hr_319, b_317, b_318⟩ := wg_8 hWF Tt
                    have bv_316 := wf_free v_316
                    have tq_320 := tp_eq hr_319
                    refine py_calli hw (va_runV (As := []) (rest := []) G0 (c_X8_next l E G L_299 f_300 H_301.size t gb nb ((rs_at gb nb eb (tp_a f_j6 t))).2 hG hWF Tt (show tp_l f_300 t = nb ∧ tp_a f_300 t = ((rs_at gb nb eb (tp_a f_j6 t))).2 by omega) (show 0 ≤ ((rs_at gb nb eb (tp_a f_j6 t))).2 ∧ nb ≤ 160 by omega) hTB) (cwV 0 G0.2.2.2.2 g_X4_readChain_X8_next_35 rfl rfl rfl (by decide +kernel) ⟨(show 0 + 1 ≤ fr + 1 by omega), (show 8 + (1 + 11) + 0 ≤ lo + 60 by omega)⟩) (py_preV hw (C := RX8) (T := TX8) (N := 4) rfl hr_319) rfl rfl hl.1 rfl (lv_room (Nat.le_of_ble_eq_true rfl)) dX4_readChain_101 ⟨(Nat.le_of_ble_eq_true rfl), (Nat.le_of_ble_eq_true rfl)⟩) (fun r_325 L_321 f_322 H_323 locs hp_324 hw => ?_)
                    obtain ⟨en_326, en_327, en_328, en_329, en_330, hWF, hq_331, kp_332⟩ := hp_324
                    have hTB := (gfn_kp (kp_f kp_332 (wt_8 hG Tt) (by decide) (by decide) (fun _ => by decide))).trans hTB
                    have hRP := hRP.trans hq_331
                    have hKP := hKP.trans kp_332 (by decide) (by decide)
                    have hr_298 := kp_at kp_332 hWF Th (by decide) (by decide) (by decide) hr_298
                    have br_325 := wf_free r_325
                    refine lv_istore (lv' := [(5, .int r_325), (8, .int r_303), (7, .int 1), (6, .int v_1), (0, .ref h), (1, .ref t), (2, .int 3), (3, .int i), (4, .int b)]) G0.1 G0.2.1 dX4_readChain_104 hl (by decide) rfl (fun ls hl => ?_)
                    refine lv_iload G0.1 G0.2.1 dX4_readChain_106 (lv_at hl 0 rfl) ?_
                    refine py_calli hw (va_runS (As := [.int r_325]) (rest := []) G0 (c_X4_chainOf l E G L_321 f_322 H_323.size r_325 (rs_v gb nb (rs_sk gb nb ((rs_at gb nb eb (tp_a f_j6 t))).2)) hG hWF (show r_325.toInt = (rs_v gb nb (rs_sk gb nb ((rs_at gb nb eb (tp_a f_j6 t))).2)) by omega)) (va_cwS 1 G0.2.2.2.2 g_X4_readChain_X4_chainOf_62 rfl rfl rfl (by decide +kernel) ⟨(show 0 + 1 ≤ fr + 1 by omega), (show 8 + (1 + 11) + 0 ≤ lo + 60 by omega)⟩) (py_preS hw) rfl rfl hl.1 rfl (lv_room (Nat.le_of_ble_eq_true rfl)) dX4_readChain_108 ⟨(Nat.le_of_ble_eq_true rfl), (Nat.le_of_ble_eq_true rfl)⟩) (fun r_337 L_333 f_334 H_335 locs hp_336 hw => ?_)
                    obtain ⟨b_340, en_338, en_339, rfl, rfl⟩ := hp_336
                    refine lv_iload_n G0.1 G0.2.1 dX4_readChain_111 rfl (lv_at hl 6 rfl) ?_
                    refine lv_icmp_eq (tgt := 117) G0.1 G0.2.1 dX4_readChain_112 (by decide) (fun c_341 => ?_) (fun c_341 => ?_)
                    · skip
                      have tc_341 := ti_eq c_341
                      replace en_338 := en_338 (by omega)
                      refine lv_aload_n G0.1 G0.2.1 dX4_readChain_117 rfl (lv_at hl 5 rfl) ?_
                      refine lv_dup G0.1 G0.2.1 dX4_readChain_118 rfl ?_
                      obtain ⟨v_342, v_343, v_344, hr_347, b_345, b_346⟩ := wg_8 hWF Tt
                      have bv_344 := wf_free v_344
                      have tq_348 := tp_eq hr_347
                      refine py_get (C := RX8) (T := TX8) (N := 4) (k := 2) (v := .int v_343) G0 hw in_X4_readChain_X8 rfl hr_347 (by decide) (by decide +kernel) rfl dX4_readChain_119 ?_
                      refine lv_iconst (v := 1) G0.1 G0.2.1 dX4_readChain_122 (by decide) ?_
                      refine lv_iadd G0.1 G0.2.1 dX4_readChain_123 ?_
                      refine lv_topi (fun x_349 ex_349 => ?_)
                      first | have tx_349 := ti_add ex_349 (by omega) (by omega) | skip
                      refine py_put (C := RX8) (T := TX8) (N := 4) (k := 2) (v := .int x_349) (fs' := [.ref (G.2 t 0), .int v_342, .int x_349, .int v_344]) (ty0 := tyX8) G0 hw tyX8_ok nmX8 in_X4_readChain_X8 rfl hr_347 (by decide) (by decide +kernel) rfl rfl rfl rfl (Nat.le_of_ble_eq_true rfl) rfl dX4_readChain_124 (fun f_350 H_351 locs h_352 x_353 hw => ?_)
                      have hTB := (gfn_kp (kp_f (KP.refl.upd hWF x_353 Tt (Or.inl (by decide)) : KP G [9] false f_322 f_350) (wt_8 hG Tt) (by decide) (by decide) (fun _ => by decide))).trans hTB
                      have hKP := hKP.upd hWF x_353 Tt (Or.inl (by decide))
                      have hRP := hRP.trans (rp_upd hG hWF x_353 hr_347.2 h_352.2 (rp_code hG Tt (by decide)) rfl)
                      have hWF := wf_upd hWF h_352 x_353 (by rw [Tt]; exact ⟨v_342, x_349, v_344, rfl, ⟨by omega, by omega⟩, ⟨by omega, by omega⟩⟩)
                      have tq_354 := tp_eq h_352
                      have hr_298 := hr_298.ext x_353 (py_ne_kind hr_298 hr_347 (by decide))
                      obtain ⟨x_355, ex_355⟩ : ∃ y : Int32, y = v_1 + 1 := ⟨_, rfl⟩
                      first | have tx_355 := ti_add ex_355 (by omega) (by omega) | skip
                      refine lv_iinc (v := x_355) (lv' := [(6, .int x_355), (5, .int r_325), (8, .int r_303), (7, .int 1), (0, .ref h), (1, .ref t), (2, .int 3), (3, .int i), (4, .int b)]) G0.1 G0.2.1 dX4_readChain_127 hl (k := 3) rfl (show _ + (1 : Int32) = _ from ex_355.symm) (by decide) rfl (fun ls hl => ?_)
                      refine lv_goto (tgt := 6) G0.1 G0.2.1 dX4_readChain_130 (by decide) ?_
                      exact ih_6 ((2147483647 - x_355.toInt).toNat) (by omega) x_355 r_325 L_321 f_350 _ _ ls rfl ⟨by omega, by omega⟩ hWF hRP hKP hTB (by first | omega | (intros; omega)) (by first | omega | (intros; omega)) (by first | omega | (intros; omega)) (by first | omega | (intros; omega)) (by first | omega | (intros; omega)) (rs_af_on hW (by omega) (by omega) (by omega) (by omega)) hw (lv_sub hl [0, 1, 4, 5, 6, 7, 8] rfl)
                    · skip
                      have tc_341 := ti_ne c_341
                      refine lv_iconst (v := 1) G0.1 G0.2.1 dX4_readChain_115 (by decide) ?_
                      obtain ⟨v_356, v_357, v_358, hr_361, b_359, b_360⟩ := wg_8 hWF Tt
                      have bv_358 := wf_free v_358
                      have tq_362 := tp_eq hr_361
                      exact py_iret G0 hr rfl hlk hw ⟨⟨by omega, by omega⟩, (by first | omega | (intro q; omega)), (by first | omega | (intro q; omega)), (by first | omega | (intro q; omega)), (by first | exact rs_eqw (hW.trans (rs_af_0 (by omega))) (by omega) (by omega) | exact rs_eq (hW.trans (rs_af_e (by omega) (by omega))) (by omega) (by omega) | exact False.elim (by omega)), hWF, hRP, hKP⟩ dX4_readChain_116
                  · skip
                    have tc_312 := ti_nle c_312
                    refine lv_aload_n G0.1 G0.2.1 dX4_readChain_90 rfl (lv_at hl 4 rfl) ?_
                    refine py_get (C := RX4) (T := TX4) (N := 1) (k := 0) (v := .ref r_296) G0 hw in_X4_readChain_X4 rfl hr_298 (by decide) (by decide +kernel) rfl dX4_readChain_91 ?_
                    refine lv_iload G0.1 G0.2.1 dX4_readChain_94 (lv_at hl 3 rfl) ?_
                    refine lv_iconst (v := 0) G0.1 G0.2.1 dX4_readChain_96 (by decide) ?_
                    obtain ⟨t_363, t_364⟩ := wt_3 hG ty_297
                    obtain ⟨v_365, hr_367, b_366⟩ := wg_3 hWF ty_297
                    have t_368 := wt_8 hG Tt
                    obtain ⟨v_369, v_370, v_371, hr_374, b_372, b_373⟩ := wg_8 hWF Tt
                    have bv_371 := wf_free v_371
                    have tq_375 := tp_eq hr_374
                    refine py_callv hw (va_runV (As := [.int v_2, .int 0]) (rest := []) G0 (c_X3_add l E G L_299 f_300 H_301.size r_296 v_2 0 hG hWF ty_297) (cwV 2 G0.2.2.2.2 g_X4_readChain_X3_add_46 rfl rfl rfl (by decide +kernel) ⟨(show 0 + 1 ≤ fr + 1 by omega), (show 8 + (3 + 11) + 0 ≤ lo + 60 by omega)⟩) (py_preV hw (C := RX3) (T := TX3) (N := 3) rfl hr_367) rfl rfl hl.1 rfl (lv_room (Nat.le_of_ble_eq_true rfl)) dX4_readChain_97 ⟨(Nat.le_of_ble_eq_true rfl), (Nat.le_of_ble_eq_true rfl)⟩) (fun L_376 f_377 H_378 locs hp_379 hw => ?_)
                    obtain ⟨hWF, hq_381, kp_382⟩ := hp_379
                    have hTB := (gfn_kp (kp_f kp_382 (wt_8 hG Tt) (by decide) (by decide) (fun _ => by decide))).trans hTB
                    have hRP := hRP.trans hq_381
                    have hKP := hKP.trans kp_382 (by decide) (by decide)
                    have hr_298 := kp_at kp_382 hWF Th (by decide) (by decide) (by decide) hr_298
                    have hr_374 := kp_at kp_382 hWF Tt (by decide) (by decide) (by decide) hr_374
                    have tq_383 := tp_eq hr_374
                    refine lv_aload_n G0.1 G0.2.1 dX4_readChain_100 rfl (lv_at hl 5 rfl) ?_
                    refine py_calli hw (va_runV (As := []) (rest := []) G0 (c_X8_next l E G L_376 f_377 H_378.size t gb nb ((rs_at gb nb eb (tp_a f_j6 t))).2 hG hWF Tt (show tp_l f_377 t = nb ∧ tp_a f_377 t = ((rs_at gb nb eb (tp_a f_j6 t))).2 by omega) (show 0 ≤ ((rs_at gb nb eb (tp_a f_j6 t))).2 ∧ nb ≤ 160 by omega) hTB) (cwV 0 G0.2.2.2.2 g_X4_readChain_X8_next_35 rfl rfl rfl (by decide +kernel) ⟨(show 0 + 1 ≤ fr + 1 by omega), (show 8 + (1 + 11) + 0 ≤ lo + 60 by omega)⟩) (py_preV hw (C := RX8) (T := TX8) (N := 4) rfl hr_374) rfl rfl hl.1 rfl (lv_room (Nat.le_of_ble_eq_true rfl)) dX4_readChain_101 ⟨(Nat.le_of_ble_eq_true rfl), (Nat.le_of_ble_eq_true rfl)⟩) (fun r_388 L_384 f_385 H_386 locs hp_387 hw => ?_)
                    obtain ⟨en_389, en_390, en_391, en_392, en_393, hWF, hq_394, kp_395⟩ := hp_387
                    have hTB := (gfn_kp (kp_f kp_395 (wt_8 hG Tt) (by decide) (by decide) (fun _ => by decide))).trans hTB
                    have hRP := hRP.trans hq_394
                    have hKP := hKP.trans kp_395 (by decide) (by decide)
                    have hr_298 := kp_at kp_395 hWF Th (by decide) (by decide) (by decide) hr_298
                    have br_388 := wf_free r_388
                    refine lv_istore (lv' := [(5, .int r_388), (8, .int r_303), (7, .int 1), (6, .int v_1), (0, .ref h), (1, .ref t), (2, .int 3), (3, .int i), (4, .int b)]) G0.1 G0.2.1 dX4_readChain_104 hl (by decide) rfl (fun ls hl => ?_)
                    refine lv_iload G0.1 G0.2.1 dX4_readChain_106 (lv_at hl 0 rfl) ?_
                    refine py_calli hw (va_runS (As := [.int r_388]) (rest := []) G0 (c_X4_chainOf l E G L_384 f_385 H_386.size r_388 (rs_v gb nb (rs_sk gb nb ((rs_at gb nb eb (tp_a f_j6 t))).2)) hG hWF (show r_388.toInt = (rs_v gb nb (rs_sk gb nb ((rs_at gb nb eb (tp_a f_j6 t))).2)) by omega)) (va_cwS 1 G0.2.2.2.2 g_X4_readChain_X4_chainOf_62 rfl rfl rfl (by decide +kernel) ⟨(show 0 + 1 ≤ fr + 1 by omega), (show 8 + (1 + 11) + 0 ≤ lo + 60 by omega)⟩) (py_preS hw) rfl rfl hl.1 rfl (lv_room (Nat.le_of_ble_eq_true rfl)) dX4_readChain_108 ⟨(Nat.le_of_ble_eq_true rfl), (Nat.le_of_ble_eq_true rfl)⟩) (fun r_400 L_396 f_397 H_398 locs hp_399 hw => ?_)
                    obtain ⟨b_403, en_401, en_402, rfl, rfl⟩ := hp_399
                    refine lv_iload_n G0.1 G0.2.1 dX4_readChain_111 rfl (lv_at hl 6 rfl) ?_
                    refine lv_icmp_eq (tgt := 117) G0.1 G0.2.1 dX4_readChain_112 (by decide) (fun c_404 => ?_) (fun c_404 => ?_)
                    · skip
                      have tc_404 := ti_eq c_404
                      replace en_401 := en_401 (by omega)
                      refine lv_aload_n G0.1 G0.2.1 dX4_readChain_117 rfl (lv_at hl 5 rfl) ?_
                      refine lv_dup G0.1 G0.2.1 dX4_readChain_118 rfl ?_
                      obtain ⟨v_405, v_406, v_407, hr_410, b_408, b_409⟩ := wg_8 hWF Tt
                      have bv_407 := wf_free v_407
                      have tq_411 := tp_eq hr_410
                      refine py_get (C := RX8) (T := TX8) (N := 4) (k := 2) (v := .int v_406) G0 hw in_X4_readChain_X8 rfl hr_410 (by decide) (by decide +kernel) rfl dX4_readChain_119 ?_
                      refine lv_iconst (v := 1) G0.1 G0.2.1 dX4_readChain_122 (by decide) ?_
                      refine lv_iadd G0.1 G0.2.1 dX4_readChain_123 ?_
                      refine lv_topi (fun x_412 ex_412 => ?_)
                      first | have tx_412 := ti_add ex_412 (by omega) (by omega) | skip
                      refine py_put (C := RX8) (T := TX8) (N := 4) (k := 2) (v := .int x_412) (fs' := [.ref (G.2 t 0), .int v_405, .int x_412, .int v_407]) (ty0 := tyX8) G0 hw tyX8_ok nmX8 in_X4_readChain_X8 rfl hr_410 (by decide) (by decide +kernel) rfl rfl rfl rfl (Nat.le_of_ble_eq_true rfl) rfl dX4_readChain_124 (fun f_413 H_414 locs h_415 x_416 hw => ?_)
                      have hTB := (gfn_kp (kp_f (KP.refl.upd hWF x_416 Tt (Or.inl (by decide)) : KP G [9] false f_385 f_413) (wt_8 hG Tt) (by decide) (by decide) (fun _ => by decide))).trans hTB
                      have hKP := hKP.upd hWF x_416 Tt (Or.inl (by decide))
                      have hRP := hRP.trans (rp_upd hG hWF x_416 hr_410.2 h_415.2 (rp_code hG Tt (by decide)) rfl)
                      have hWF := wf_upd hWF h_415 x_416 (by rw [Tt]; exact ⟨v_405, x_412, v_407, rfl, ⟨by omega, by omega⟩, ⟨by omega, by omega⟩⟩)
                      have tq_417 := tp_eq h_415
                      have hr_298 := hr_298.ext x_416 (py_ne_kind hr_298 hr_410 (by decide))
                      obtain ⟨x_418, ex_418⟩ : ∃ y : Int32, y = v_1 + 1 := ⟨_, rfl⟩
                      first | have tx_418 := ti_add ex_418 (by omega) (by omega) | skip
                      refine lv_iinc (v := x_418) (lv' := [(6, .int x_418), (5, .int r_388), (8, .int r_303), (7, .int 1), (0, .ref h), (1, .ref t), (2, .int 3), (3, .int i), (4, .int b)]) G0.1 G0.2.1 dX4_readChain_127 hl (k := 3) rfl (show _ + (1 : Int32) = _ from ex_418.symm) (by decide) rfl (fun ls hl => ?_)
                      refine lv_goto (tgt := 6) G0.1 G0.2.1 dX4_readChain_130 (by decide) ?_
                      exact ih_6 ((2147483647 - x_418.toInt).toNat) (by omega) x_418 r_388 L_384 f_413 _ _ ls rfl ⟨by omega, by omega⟩ hWF hRP hKP hTB (by first | omega | (intros; omega)) (by first | omega | (intros; omega)) (by first | omega | (intros; omega)) (by first | omega | (intros; omega)) (by first | omega | (intros; omega)) (rs_af_on hW (by omega) (by omega) (by omega) (by omega)) hw (lv_sub hl [0, 1, 4, 5, 6, 7, 8] rfl)
                    · skip
                      have tc_404 := ti_ne c_404
                      refine lv_iconst (v := 1) G0.1 G0.2.1 dX4_readChain_115 (by decide) ?_
                      obtain ⟨v_419, v_420, v_421, hr_424, b_422, b_423⟩ := wg_8 hWF Tt
                      have bv_421 := wf_free v_421
                      have tq_425 := tp_eq hr_424
                      exact py_iret G0 hr rfl hlk hw ⟨⟨by omega, by omega⟩, (by first | omega | (intro q; omega)), (by first | omega | (intro q; omega)), (by first | omega | (intro q; omega)), (by first | exact rs_eqw (hW.trans (rs_af_0 (by omega))) (by omega) (by omega) | exact rs_eq (hW.trans (rs_af_e (by omega) (by omega))) (by omega) (by omega) | exact False.elim (by omega)), hWF, hRP, hKP⟩ dX4_readChain_116
                · skip
                  have tc_311 := ti_eq c_311
                  clear en_306
                  refine lv_iconst (v := 0) G0.1 G0.2.1 dX4_readChain_83 (by decide) ?_
                  have t_426 := wt_8 hG Tt
                  obtain ⟨v_427, v_428, v_429, hr_432, b_430, b_431⟩ := wg_8 hWF Tt
                  have bv_429 := wf_free v_429
                  have tq_433 := tp_eq hr_432
                  exact py_iret G0 hr rfl hlk hw ⟨⟨by omega, by omega⟩, (by first | omega | (intro q; omega)), (by first | omega | (intro q; omega)), (by first | omega | (intro q; omega)), (by first | exact rs_eqw (hW.trans (rs_af_0 (by omega))) (by omega) (by omega) | exact rs_eq (hW.trans (rs_af_e (by omega) (by omega))) (by omega) (by omega) | exact False.elim (by omega)), hWF, hRP, hKP⟩ dX4_readChain_84
            · skip
              exact absurd c_294 (by decide)
  exact lo_6 _ 0 0 L f _ _ ls rfl ⟨by omega, by omega⟩ hWF hRP hKP hTB (by first | omega | (intros; omega)) (by first | omega | (intros; omega)) (by first | omega | (intros; omega)) (by first | omega | (intros; omega)) (by first | omega | (intros; omega)) (by rw [show tp_a f t = pb by omega]; rfl) hw (lv_sub hl [0, 1, 2, 3, 4, 5, 6] rfl)

set_option maxHeartbeats 4000000 in
set_option maxRecDepth 100000 in
theorem k_chain2 (l : Launch) (E : py_E) (G : wf_G) (hG : GT G) (wb : Int) (hwb : 0 ≤ wb) (fr lo : Nat) (hfr : 10 ≤ fr) (hlo : 300 ≤ lo) (f_chain3 l_chain3 : Nat) (x_chain3 : f_chain3 ≤ fr) (z_chain3 : l_chain3 ≤ lo) (ih_chain3 : P_chain3 l E G wb f_chain3 l_chain3) : P_chain2 l E G wb (fr + 1) (lo + 60) := by
  intro L f sz h t i b gb nb pb eb hWF Th Tt Bb hp0 hp1 hp2 hp3 hq0
  refine Met.ofW (cc := cX4_readChain) (maxL := 9) (ret := (some .boolean)) (by decide) rfl ?_
  intro p e s m args below meth c s₁ B hml hv
  obtain ⟨rfl, rfl, hw⟩ := py_start hv
  have G0 : CallFix p m c cX4_readChain 9 s _ w_X4_readChain RX4 := ⟨B.exec, B.bytes, hml, findClass_of_methodNamed B.named, atoms_spec (ws := w_X4_readChain) B.pre⟩
  have hr := B.returns
  have hlk := B.notSynchronized
  have kcm1 : (-1 : Int32).toInt = -1 := rfl
  have kc0 : (0 : Int32).toInt = 0 := rfl
  have kc1 : (1 : Int32).toInt = 1 := rfl
  have kc2 : (2 : Int32).toInt = 2 := rfl
  have kc3 : (3 : Int32).toInt = 3 := rfl
  have kc160 : (160 : Int32).toInt = 160 := rfl
  have hl := lv_entry ([.ref h, .ref t, .int 2, .int i, .int b]) (n := 9) (Nat.le_of_ble_eq_true rfl)
  rw [lg_entry_eq]
  generalize (lg_sl ([.ref h, .ref t, .int 2, .int i, .int b]) ++ List.replicate (9 - (lg_sl ([.ref h, .ref t, .int 2, .int i, .int b])).length) Slot.unset).toArray = ls at hl ⊢
  have hl : lv_has ls 9 [(0, .ref h), (1, .ref t), (2, .int 2), (3, .int i), (4, .int b)] := hl
  have hRP : RP E G f f := RP.refl
  have hKP : KP G [9, 4, 20] false f f := KP.refl
  have hTB := hq0
  refine lv_iconst (v := 0) G0.1 G0.2.1 dX4_readChain_0 (by decide) ?_
  refine lv_istore (lv' := [(5, .int 0), (0, .ref h), (1, .ref t), (2, .int 2), (3, .int i), (4, .int b)]) G0.1 G0.2.1 dX4_readChain_1 hl (by decide) rfl (fun ls hl => ?_)
  refine lv_iconst (v := 0) G0.1 G0.2.1 dX4_readChain_3 (by decide) ?_
  refine lv_istore (lv' := [(6, .int 0), (5, .int 0), (0, .ref h), (1, .ref t), (2, .int 2), (3, .int i), (4, .int b)]) G0.1 G0.2.1 dX4_readChain_4 hl (by decide) rfl (fun ls hl => ?_)
  have lo_6 : ∀ n_6 : Nat, ∀ (v_1 : Int32) (v_2 : Int32) (L_j6 : List Nat) (f_j6 : py_F) (H_j6 : Heap) (locs : List Loc) (ls : Array Slot), (2147483647 - v_1.toInt).toNat = n_6 → (0 ≤ v_1.toInt ∧ v_1.toInt ≤ 2147483647) → WF E G L_j6 f_j6 → RP E G f f_j6 → KP G [9, 4, 20] false f f_j6 → gfn f_j6 (G.2 t 0) = gb → (tp_l f_j6 t = nb) → (pb ≤ tp_a f_j6 t) → (2 * v_1.toInt ≤ tp_a f_j6 t) → (1 ≤ v_1.toInt → tp_a f_j6 t ≤ nb) → (v_1.toInt = 0 → tp_a f_j6 t = pb) → ((rs_sm gb nb eb pb) = rs_lp (rs_tm gb nb eb) 2 gb nb (tp_a f_j6 t)) → py_W E (va_A (va_pl L f) s.heap.size) s L_j6 f_j6 H_j6 locs → lv_has ls 9 [(6, .int v_1), (5, .int v_2), (0, .ref h), (1, .ref t), (2, .int 2), (3, .int i), (4, .int b)] → W p l e (headSpec w_X4_readChain ({ frames := fr + 1, cells := 0, slots := 0, locals := lo + 60 })).room s m ([.ref h, .ref t, .int 2, .int i, .int b] : List Value).toArray below meth c H_j6 locs 0 0 (MQ below (py_Qi E L f s.heap.size (fun r L1 f1 => (0 ≤ r.toInt ∧ r.toInt ≤ 1) ∧ (tp_l f1 t = nb) ∧ (pb ≤ tp_a f1 t) ∧ (r.toInt ≠ 0 → pb + 1 ≤ tp_a f1 t ∧ tp_a f1 t ≤ nb) ∧ (r.toInt = (rs_sm gb nb eb pb).1 ∧ tp_a f1 t = (rs_sm gb nb eb pb).2) ∧ WF E G L1 f1 ∧ RP E G f f1 ∧ KP G [9, 4, 20] false f f1)) ([.ref h, .ref t, .int 2, .int i, .int b] : List Value).toArray s 0 0 (va_A (va_pl L f) s.heap.size)) (F0 m 6 ls []) := by
    intro n_6
    induction n_6 using Nat.strongRecOn with
    | _ n_6 ih_6 =>
      intro v_1 v_2 L_j6 f_j6 H_j6 locs ls hn_6 bv_1 hWF hRP hKP hTB iv0 iv1 iv2 iv3 iv4 iv5 hw hl
      refine lv_iload G0.1 G0.2.1 dX4_readChain_6 (lv_at hl 0 rfl) ?_
      refine lv_sipush (v := 160) G0.1 G0.2.1 dX4_readChain_8 (by decide) ?_
      refine lv_icmp_ge (tgt := 133) G0.1 G0.2.1 dX4_readChain_11 (by decide) (fun c_3 => ?_) (fun c_3 => ?_)
      · skip
        have tc_3 := ti_le c_3
        refine lv_iconst (v := 0) G0.1 G0.2.1 dX4_readChain_133 (by decide) ?_
        have t_4 := wt_8 hG Tt
        obtain ⟨v_5, v_6, v_7, hr_10, b_8, b_9⟩ := wg_8 hWF Tt
        have bv_7 := wf_free v_7
        have tq_11 := tp_eq hr_10
        exact py_iret G0 hr rfl hlk hw ⟨⟨by omega, by omega⟩, (by first | omega | (intro q; omega)), (by first | omega | (intro q; omega)), (by first | omega | (intro q; omega)), (by first | exact rs_eqw (hW.trans (rs_af_0 (by omega))) (by omega) (by omega) | exact rs_eq (hW.trans (rs_af_e (by omega) (by omega))) (by omega) (by omega) | exact False.elim (by omega)), hWF, hRP, hKP⟩ dX4_readChain_134
      · skip
        have tc_3 := ti_nle c_3
        refine lv_iload G0.1 G0.2.1 dX4_readChain_14 (lv_at hl 6 rfl) ?_
        refine lv_if_eq (tgt := 28) G0.1 G0.2.1 dX4_readChain_16 (by decide) (fun c_12 => ?_) (fun c_12 => ?_)
        · skip
          have tc_12 := ti_eq c_12
          refine lv_iconst (v := 0) G0.1 G0.2.1 dX4_readChain_28 (by decide) ?_
          refine lv_istore (lv' := [(7, .int 0), (6, .int v_1), (5, .int v_2), (0, .ref h), (1, .ref t), (2, .int 2), (3, .int i), (4, .int b)]) G0.1 G0.2.1 dX4_readChain_29 hl (by decide) rfl (fun ls hl => ?_)
          refine lv_iload_n G0.1 G0.2.1 dX4_readChain_31 rfl (lv_at hl 5 rfl) ?_
          refine lv_iconst (v := 1) G0.1 G0.2.1 dX4_readChain_32 (by decide) ?_
          refine lv_icmp_ne (tgt := 49) G0.1 G0.2.1 dX4_readChain_33 (by decide) (fun c_13 => ?_) (fun c_13 => ?_)
          · skip
            have tc_13 := ti_ne c_13
            refine lv_iload_n G0.1 G0.2.1 dX4_readChain_49 rfl (lv_at hl 5 rfl) ?_
            refine lv_iconst (v := 3) G0.1 G0.2.1 dX4_readChain_50 (by decide) ?_
            refine lv_icmp_ne (tgt := 65) G0.1 G0.2.1 dX4_readChain_51 (by decide) (fun c_14 => ?_) (fun c_14 => ?_)
            · skip
              have tc_14 := ti_ne c_14
              refine lv_aload_n G0.1 G0.2.1 dX4_readChain_65 rfl (lv_at hl 3 rfl) ?_
              refine lv_aload_n G0.1 G0.2.1 dX4_readChain_66 rfl (lv_at hl 4 rfl) ?_
              refine lv_iload_n G0.1 G0.2.1 dX4_readChain_67 rfl (lv_at hl 5 rfl) ?_
              refine lv_iconst (v := 1) G0.1 G0.2.1 dX4_readChain_68 (by decide) ?_
              refine lv_iadd G0.1 G0.2.1 dX4_readChain_69 ?_
              rw [show 2 + 1 = (3 : Int32) by decide]
              refine lv_iload_n G0.1 G0.2.1 dX4_readChain_70 rfl (lv_at hl 6 rfl) ?_
              refine lv_iload G0.1 G0.2.1 dX4_readChain_71 (lv_at hl 0 rfl) ?_
              obtain ⟨r_15, hr_17, ty_16⟩ := wg_4 hWF Th
              refine py_calli hw (va_runV (As := [.ref t, .int 3, .int i, .int 0]) (rest := []) G0 (ih_chain3 L_j6 f_j6 H_j6.size h t i 0 gb nb (tp_a f_j6 t) eb hWF Th Tt ⟨by omega, by omega⟩ (show wb ≤ i.toInt ∧ i.toInt ≤ 6 by omega) (show i.toInt = 6 - ((eb : Nat) : Int) by omega) (show tp_l f_j6 t = nb ∧ tp_a f_j6 t = (tp_a f_j6 t) by omega) (show 0 ≤ (tp_a f_j6 t) ∧ nb ≤ 160 by omega) hTB) (cwV 4 G0.2.2.2.2 g_X4_readChain_X4_readChain_39 rfl rfl rfl (by decide +kernel) ⟨(show f_chain3 + 1 ≤ fr + 1 by omega), (show 8 + (9 + 11) + l_chain3 ≤ lo + 60 by omega)⟩) (py_preV hw (C := RX4) (T := TX4) (N := 1) rfl hr_17) rfl rfl hl.1 rfl (lv_room (Nat.le_of_ble_eq_true rfl)) dX4_readChain_73 ⟨(Nat.le_of_ble_eq_true rfl), (Nat.le_of_ble_eq_true rfl)⟩) (fun r_22 L_18 f_19 H_20 locs hp_21 hw => ?_)
              obtain ⟨b_27, en_23, en_24, en_25, en_26, hWF, hq_28, kp_29⟩ := hp_21
              have hTB := (gfn_kp (kp_f kp_29 (wt_8 hG Tt) (by decide) (by decide) (fun _ => by decide))).trans hTB
              have hRP := hRP.trans hq_28
              have hKP := hKP.trans kp_29 (by decide) (by decide)
              have hr_17 := kp_at kp_29 hWF Th (by decide) (by decide) (by decide) hr_17
              have hW : (rs_sm gb nb eb pb) = rs_af (rs_tm gb nb eb) 2 gb nb (rs_tm gb nb eb (tp_a f_j6 t)) := rs_lp_eb iv5 rfl (by omega)
              refine lv_istore (lv' := [(8, .int r_22), (7, .int 0), (6, .int v_1), (5, .int v_2), (0, .ref h), (1, .ref t), (2, .int 2), (3, .int i), (4, .int b)]) G0.1 G0.2.1 dX4_readChain_76 hl (by decide) rfl (fun ls hl => ?_)
              refine lv_iload G0.1 G0.2.1 dX4_readChain_78 (lv_at hl 0 rfl) ?_
              refine lv_if_ne (tgt := 85) G0.1 G0.2.1 dX4_readChain_80 (by decide) (fun c_30 => ?_) (fun c_30 => ?_)
              · skip
                have tc_30 := ti_ne c_30
                replace en_25 := en_25 (by omega)
                refine lv_iload G0.1 G0.2.1 dX4_readChain_85 (lv_at hl 2 rfl) ?_
                refine lv_if_le (tgt := 100) G0.1 G0.2.1 dX4_readChain_87 (by decide) (fun c_31 => ?_) (fun c_31 => ?_)
                · skip
                  have tc_31 := ti_le c_31
                  refine lv_aload_n G0.1 G0.2.1 dX4_readChain_100 rfl (lv_at hl 5 rfl) ?_
                  have t_32 := wt_8 hG Tt
                  obtain ⟨v_33, v_34, v_35, hr_38, b_36, b_37⟩ := wg_8 hWF Tt
                  have bv_35 := wf_free v_35
                  have tq_39 := tp_eq hr_38
                  refine py_calli hw (va_runV (As := []) (rest := []) G0 (c_X8_next l E G L_18 f_19 H_20.size t gb nb ((rs_tm gb nb eb (tp_a f_j6 t))).2 hG hWF Tt (show tp_l f_19 t = nb ∧ tp_a f_19 t = ((rs_tm gb nb eb (tp_a f_j6 t))).2 by omega) (show 0 ≤ ((rs_tm gb nb eb (tp_a f_j6 t))).2 ∧ nb ≤ 160 by omega) hTB) (cwV 0 G0.2.2.2.2 g_X4_readChain_X8_next_35 rfl rfl rfl (by decide +kernel) ⟨(show 0 + 1 ≤ fr + 1 by omega), (show 8 + (1 + 11) + 0 ≤ lo + 60 by omega)⟩) (py_preV hw (C := RX8) (T := TX8) (N := 4) rfl hr_38) rfl rfl hl.1 rfl (lv_room (Nat.le_of_ble_eq_true rfl)) dX4_readChain_101 ⟨(Nat.le_of_ble_eq_true rfl), (Nat.le_of_ble_eq_true rfl)⟩) (fun r_44 L_40 f_41 H_42 locs hp_43 hw => ?_)
                  obtain ⟨en_45, en_46, en_47, en_48, en_49, hWF, hq_50, kp_51⟩ := hp_43
                  have hTB := (gfn_kp (kp_f kp_51 (wt_8 hG Tt) (by decide) (by decide) (fun _ => by decide))).trans hTB
                  have hRP := hRP.trans hq_50
                  have hKP := hKP.trans kp_51 (by decide) (by decide)
                  have hr_17 := kp_at kp_51 hWF Th (by decide) (by decide) (by decide) hr_17
                  have br_44 := wf_free r_44
                  refine lv_istore (lv' := [(5, .int r_44), (8, .int r_22), (7, .int 0), (6, .int v_1), (0, .ref h), (1, .ref t), (2, .int 2), (3, .int i), (4, .int b)]) G0.1 G0.2.1 dX4_readChain_104 hl (by decide) rfl (fun ls hl => ?_)
                  refine lv_iload G0.1 G0.2.1 dX4_readChain_106 (lv_at hl 0 rfl) ?_
                  refine py_calli hw (va_runS (As := [.int r_44]) (rest := []) G0 (c_X4_chainOf l E G L_40 f_41 H_42.size r_44 (rs_v gb nb (rs_sk gb nb ((rs_tm gb nb eb (tp_a f_j6 t))).2)) hG hWF (show r_44.toInt = (rs_v gb nb (rs_sk gb nb ((rs_tm gb nb eb (tp_a f_j6 t))).2)) by omega)) (va_cwS 1 G0.2.2.2.2 g_X4_readChain_X4_chainOf_62 rfl rfl rfl (by decide +kernel) ⟨(show 0 + 1 ≤ fr + 1 by omega), (show 8 + (1 + 11) + 0 ≤ lo + 60 by omega)⟩) (py_preS hw) rfl rfl hl.1 rfl (lv_room (Nat.le_of_ble_eq_true rfl)) dX4_readChain_108 ⟨(Nat.le_of_ble_eq_true rfl), (Nat.le_of_ble_eq_true rfl)⟩) (fun r_56 L_52 f_53 H_54 locs hp_55 hw => ?_)
                  obtain ⟨b_59, en_57, en_58, rfl, rfl⟩ := hp_55
                  refine lv_iload_n G0.1 G0.2.1 dX4_readChain_111 rfl (lv_at hl 6 rfl) ?_
                  refine lv_icmp_eq (tgt := 117) G0.1 G0.2.1 dX4_readChain_112 (by decide) (fun c_60 => ?_) (fun c_60 => ?_)
                  · skip
                    have tc_60 := ti_eq c_60
                    replace en_57 := en_57 (by omega)
                    refine lv_aload_n G0.1 G0.2.1 dX4_readChain_117 rfl (lv_at hl 5 rfl) ?_
                    refine lv_dup G0.1 G0.2.1 dX4_readChain_118 rfl ?_
                    obtain ⟨v_61, v_62, v_63, hr_66, b_64, b_65⟩ := wg_8 hWF Tt
                    have bv_63 := wf_free v_63
                    have tq_67 := tp_eq hr_66
                    refine py_get (C := RX8) (T := TX8) (N := 4) (k := 2) (v := .int v_62) G0 hw in_X4_readChain_X8 rfl hr_66 (by decide) (by decide +kernel) rfl dX4_readChain_119 ?_
                    refine lv_iconst (v := 1) G0.1 G0.2.1 dX4_readChain_122 (by decide) ?_
                    refine lv_iadd G0.1 G0.2.1 dX4_readChain_123 ?_
                    refine lv_topi (fun x_68 ex_68 => ?_)
                    first | have tx_68 := ti_add ex_68 (by omega) (by omega) | skip
                    refine py_put (C := RX8) (T := TX8) (N := 4) (k := 2) (v := .int x_68) (fs' := [.ref (G.2 t 0), .int v_61, .int x_68, .int v_63]) (ty0 := tyX8) G0 hw tyX8_ok nmX8 in_X4_readChain_X8 rfl hr_66 (by decide) (by decide +kernel) rfl rfl rfl rfl (Nat.le_of_ble_eq_true rfl) rfl dX4_readChain_124 (fun f_69 H_70 locs h_71 x_72 hw => ?_)
                    have hTB := (gfn_kp (kp_f (KP.refl.upd hWF x_72 Tt (Or.inl (by decide)) : KP G [9] false f_41 f_69) (wt_8 hG Tt) (by decide) (by decide) (fun _ => by decide))).trans hTB
                    have hKP := hKP.upd hWF x_72 Tt (Or.inl (by decide))
                    have hRP := hRP.trans (rp_upd hG hWF x_72 hr_66.2 h_71.2 (rp_code hG Tt (by decide)) rfl)
                    have hWF := wf_upd hWF h_71 x_72 (by rw [Tt]; exact ⟨v_61, x_68, v_63, rfl, ⟨by omega, by omega⟩, ⟨by omega, by omega⟩⟩)
                    have tq_73 := tp_eq h_71
                    have hr_17 := hr_17.ext x_72 (py_ne_kind hr_17 hr_66 (by decide))
                    obtain ⟨x_74, ex_74⟩ : ∃ y : Int32, y = v_1 + 1 := ⟨_, rfl⟩
                    first | have tx_74 := ti_add ex_74 (by omega) (by omega) | skip
                    refine lv_iinc (v := x_74) (lv' := [(6, .int x_74), (5, .int r_44), (8, .int r_22), (7, .int 0), (0, .ref h), (1, .ref t), (2, .int 2), (3, .int i), (4, .int b)]) G0.1 G0.2.1 dX4_readChain_127 hl (k := 3) rfl (show _ + (1 : Int32) = _ from ex_74.symm) (by decide) rfl (fun ls hl => ?_)
                    refine lv_goto (tgt := 6) G0.1 G0.2.1 dX4_readChain_130 (by decide) ?_
                    exact ih_6 ((2147483647 - x_74.toInt).toNat) (by omega) x_74 r_44 L_40 f_69 _ _ ls rfl ⟨by omega, by omega⟩ hWF hRP hKP hTB (by first | omega | (intros; omega)) (by first | omega | (intros; omega)) (by first | omega | (intros; omega)) (by first | omega | (intros; omega)) (by first | omega | (intros; omega)) (rs_af_on hW (by omega) (by omega) (by omega) (by omega)) hw (lv_sub hl [0, 1, 4, 5, 6, 7, 8] rfl)
                  · skip
                    have tc_60 := ti_ne c_60
                    refine lv_iconst (v := 1) G0.1 G0.2.1 dX4_readChain_115 (by decide) ?_
                    obtain ⟨v_75, v_76, v_77, hr_80, b_78, b_79⟩ := wg_8 hWF Tt
                    have bv_77 := wf_free v_77
                    have tq_81 := tp_eq hr_80
                    exact py_iret G0 hr rfl hlk hw ⟨⟨by omega, by omega⟩, (by first | omega | (intro q; omega)), (by first | omega | (intro q; omega)), (by first | omega | (intro q; omega)), (by first | exact rs_eqw (hW.trans (rs_af_0 (by omega))) (by omega) (by omega) | exact rs_eq (hW.trans (rs_af_e (by omega) (by omega))) (by omega) (by omega) | exact False.elim (by omega)), hWF, hRP, hKP⟩ dX4_readChain_116
                · skip
                  have tc_31 := ti_nle c_31
                  clear iv4
                  refine lv_aload_n G0.1 G0.2.1 dX4_readChain_90 rfl (lv_at hl 4 rfl) ?_
                  refine py_get (C := RX4) (T := TX4) (N := 1) (k := 0) (v := .ref r_15) G0 hw in_X4_readChain_X4 rfl hr_17 (by decide) (by decide +kernel) rfl dX4_readChain_91 ?_
                  refine lv_iload G0.1 G0.2.1 dX4_readChain_94 (lv_at hl 3 rfl) ?_
                  refine lv_iconst (v := 0) G0.1 G0.2.1 dX4_readChain_96 (by decide) ?_
                  obtain ⟨t_82, t_83⟩ := wt_3 hG ty_16
                  obtain ⟨v_84, hr_86, b_85⟩ := wg_3 hWF ty_16
                  have t_87 := wt_8 hG Tt
                  obtain ⟨v_88, v_89, v_90, hr_93, b_91, b_92⟩ := wg_8 hWF Tt
                  have bv_90 := wf_free v_90
                  have tq_94 := tp_eq hr_93
                  refine py_callv hw (va_runV (As := [.int v_2, .int 0]) (rest := []) G0 (c_X3_add l E G L_18 f_19 H_20.size r_15 v_2 0 hG hWF ty_16) (cwV 2 G0.2.2.2.2 g_X4_readChain_X3_add_46 rfl rfl rfl (by decide +kernel) ⟨(show 0 + 1 ≤ fr + 1 by omega), (show 8 + (3 + 11) + 0 ≤ lo + 60 by omega)⟩) (py_preV hw (C := RX3) (T := TX3) (N := 3) rfl hr_86) rfl rfl hl.1 rfl (lv_room (Nat.le_of_ble_eq_true rfl)) dX4_readChain_97 ⟨(Nat.le_of_ble_eq_true rfl), (Nat.le_of_ble_eq_true rfl)⟩) (fun L_95 f_96 H_97 locs hp_98 hw => ?_)
                  obtain ⟨hWF, hq_100, kp_101⟩ := hp_98
                  have hTB := (gfn_kp (kp_f kp_101 (wt_8 hG Tt) (by decide) (by decide) (fun _ => by decide))).trans hTB
                  have hRP := hRP.trans hq_100
                  have hKP := hKP.trans kp_101 (by decide) (by decide)
                  have hr_17 := kp_at kp_101 hWF Th (by decide) (by decide) (by decide) hr_17
                  have hr_93 := kp_at kp_101 hWF Tt (by decide) (by decide) (by decide) hr_93
                  have tq_102 := tp_eq hr_93
                  refine lv_aload_n G0.1 G0.2.1 dX4_readChain_100 rfl (lv_at hl 5 rfl) ?_
                  refine py_calli hw (va_runV (As := []) (rest := []) G0 (c_X8_next l E G L_95 f_96 H_97.size t gb nb ((rs_tm gb nb eb (tp_a f_j6 t))).2 hG hWF Tt (show tp_l f_96 t = nb ∧ tp_a f_96 t = ((rs_tm gb nb eb (tp_a f_j6 t))).2 by omega) (show 0 ≤ ((rs_tm gb nb eb (tp_a f_j6 t))).2 ∧ nb ≤ 160 by omega) hTB) (cwV 0 G0.2.2.2.2 g_X4_readChain_X8_next_35 rfl rfl rfl (by decide +kernel) ⟨(show 0 + 1 ≤ fr + 1 by omega), (show 8 + (1 + 11) + 0 ≤ lo + 60 by omega)⟩) (py_preV hw (C := RX8) (T := TX8) (N := 4) rfl hr_93) rfl rfl hl.1 rfl (lv_room (Nat.le_of_ble_eq_true rfl)) dX4_readChain_101 ⟨(Nat.le_of_ble_eq_true rfl), (Nat.le_of_ble_eq_true rfl)⟩) (fun r_107 L_103 f_104 H_105 locs hp_106 hw => ?_)
                  obtain ⟨en_108, en_109, en_110, en_111, en_112, hWF, hq_113, kp_114⟩ := hp_106
                  have hTB := (gfn_kp (kp_f kp_114 (wt_8 hG Tt) (by decide) (by decide) (fun _ => by decide))).trans hTB
                  have hRP := hRP.trans hq_113
                  have hKP := hKP.trans kp_114 (by decide) (by decide)
                  have hr_17 := kp_at kp_114 hWF Th (by decide) (by decide) (by decide) hr_17
                  have br_107 := wf_free r_107
                  refine lv_istore (lv' := [(5, .int r_107), (8, .int r_22), (7, .int 0), (6, .int v_1), (0, .ref h), (1, .ref t), (2, .int 2), (3, .int i), (4, .int b)]) G0.1 G0.2.1 dX4_readChain_104 hl (by decide) rfl (fun ls hl => ?_)
                  refine lv_iload G0.1 G0.2.1 dX4_readChain_106 (lv_at hl 0 rfl) ?_
                  refine py_calli hw (va_runS (As := [.int r_107]) (rest := []) G0 (c_X4_chainOf l E G L_103 f_104 H_105.size r_107 (rs_v gb nb (rs_sk gb nb ((rs_tm gb nb eb (tp_a f_j6 t))).2)) hG hWF (show r_107.toInt = (rs_v gb nb (rs_sk gb nb ((rs_tm gb nb eb (tp_a f_j6 t))).2)) by omega)) (va_cwS 1 G0.2.2.2.2 g_X4_readChain_X4_chainOf_62 rfl rfl rfl (by decide +kernel) ⟨(show 0 + 1 ≤ fr + 1 by omega), (show 8 + (1 + 11) + 0 ≤ lo + 60 by omega)⟩) (py_preS hw) rfl rfl hl.1 rfl (lv_room (Nat.le_of_ble_eq_true rfl)) dX4_readChain_108 ⟨(Nat.le_of_ble_eq_true rfl), (Nat.le_of_ble_eq_true rfl)⟩) (fun r_119 L_115 f_116 H_117 locs hp_118 hw => ?_)
                  obtain ⟨b_122, en_120, en_121, rfl, rfl⟩ := hp_118
                  refine lv_iload_n G0.1 G0.2.1 dX4_readChain_111 rfl (lv_at hl 6 rfl) ?_
                  refine lv_icmp_eq (tgt := 117) G0.1 G0.2.1 dX4_readChain_112 (by decide) (fun c_123 => ?_) (fun c_123 => ?_)
                  · skip
                    have tc_123 := ti_eq c_123
                    replace en_120 := en_120 (by omega)
                    refine lv_aload_n G0.1 G0.2.1 dX4_readChain_117 rfl (lv_at hl 5 rfl) ?_
                    refine lv_dup G0.1 G0.2.1 dX4_readChain_118 rfl ?_
                    obtain ⟨v_124, v_125, v_126, hr_129, b_127, b_128⟩ := wg_8 hWF Tt
                    have bv_126 := wf_free v_126
                    have tq_130 := tp_eq hr_129
                    refine py_get (C := RX8) (T := TX8) (N := 4) (k := 2) (v := .int v_125) G0 hw in_X4_readChain_X8 rfl hr_129 (by decide) (by decide +kernel) rfl dX4_readChain_119 ?_
                    refine lv_iconst (v := 1) G0.1 G0.2.1 dX4_readChain_122 (by decide) ?_
                    refine lv_iadd G0.1 G0.2.1 dX4_readChain_123 ?_
                    refine lv_topi (fun x_131 ex_131 => ?_)
                    first | have tx_131 := ti_add ex_131 (by omega) (by omega) | skip
                    refine py_put (C := RX8) (T := TX8) (N := 4) (k := 2) (v := .int x_131) (fs' := [.ref (G.2 t 0), .int v_124, .int x_131, .int v_126]) (ty0 := tyX8) G0 hw tyX8_ok nmX8 in_X4_readChain_X8 rfl hr_129 (by decide) (by decide +kernel) rfl rfl rfl rfl (Nat.le_of_ble_eq_true rfl) rfl dX4_readChain_124 (fun f_132 H_133 locs h_134 x_135 hw => ?_)
                    have hTB := (gfn_kp (kp_f (KP.refl.upd hWF x_135 Tt (Or.inl (by decide)) : KP G [9] false f_104 f_132) (wt_8 hG Tt) (by decide) (by decide) (fun _ => by decide))).trans hTB
                    have hKP := hKP.upd hWF x_135 Tt (Or.inl (by decide))
                    have hRP := hRP.trans (rp_upd hG hWF x_135 hr_129.2 h_134.2 (rp_code hG Tt (by decide)) rfl)
                    have hWF := wf_upd hWF h_134 x_135 (by rw [Tt]; exact ⟨v_124, x_131, v_126, rfl, ⟨by omega, by omega⟩, ⟨by omega, by omega⟩⟩)
                    have tq_136 := tp_eq h_134
                    have hr_17 := hr_17.ext x_135 (py_ne_kind hr_17 hr_129 (by decide))
                    obtain ⟨x_137, ex_137⟩ : ∃ y : Int32, y = v_1 + 1 := ⟨_, rfl⟩
                    first | have tx_137 := ti_add ex_137 (by omega) (by omega) | skip
                    refine lv_iinc (v := x_137) (lv' := [(6, .int x_137), (5, .int r_107), (8, .int r_22), (7, .int 0), (0, .ref h), (1, .ref t), (2, .int 2), (3, .int i), (4, .int b)]) G0.1 G0.2.1 dX4_readChain_127 hl (k := 3) rfl (show _ + (1 : Int32) = _ from ex_137.symm) (by decide) rfl (fun ls hl => ?_)
                    refine lv_goto (tgt := 6) G0.1 G0.2.1 dX4_readChain_130 (by decide) ?_
                    exact ih_6 ((2147483647 - x_137.toInt).toNat) (by omega) x_137 r_107 L_103 f_132 _ _ ls rfl ⟨by omega, by omega⟩ hWF hRP hKP hTB (by first | omega | (intros; omega)) (by first | omega | (intros; omega)) (by first | omega | (intros; omega)) (by first | omega | (intros; omega)) (by first | omega | (intros; omega)) (rs_af_on hW (by omega) (by omega) (by omega) (by omega)) hw (lv_sub hl [0, 1, 4, 5, 6, 7, 8] rfl)
                  · skip
                    have tc_123 := ti_ne c_123
                    refine lv_iconst (v := 1) G0.1 G0.2.1 dX4_readChain_115 (by decide) ?_
                    obtain ⟨v_138, v_139, v_140, hr_143, b_141, b_142⟩ := wg_8 hWF Tt
                    have bv_140 := wf_free v_140
                    have tq_144 := tp_eq hr_143
                    exact py_iret G0 hr rfl hlk hw ⟨⟨by omega, by omega⟩, (by first | omega | (intro q; omega)), (by first | omega | (intro q; omega)), (by first | omega | (intro q; omega)), (by first | exact rs_eqw (hW.trans (rs_af_0 (by omega))) (by omega) (by omega) | exact rs_eq (hW.trans (rs_af_e (by omega) (by omega))) (by omega) (by omega) | exact False.elim (by omega)), hWF, hRP, hKP⟩ dX4_readChain_116
              · skip
                have tc_30 := ti_eq c_30
                clear en_25
                refine lv_iconst (v := 0) G0.1 G0.2.1 dX4_readChain_83 (by decide) ?_
                have t_145 := wt_8 hG Tt
                obtain ⟨v_146, v_147, v_148, hr_151, b_149, b_150⟩ := wg_8 hWF Tt
                have bv_148 := wf_free v_148
                have tq_152 := tp_eq hr_151
                exact py_iret G0 hr rfl hlk hw ⟨⟨by omega, by omega⟩, (by first | omega | (intro q; omega)), (by first | omega | (intro q; omega)), (by first | omega | (intro q; omega)), (by first | exact rs_eqw (hW.trans (rs_af_0 (by omega))) (by omega) (by omega) | exact rs_eq (hW.trans (rs_af_e (by omega) (by omega))) (by omega) (by omega) | exact False.elim (by omega)), hWF, hRP, hKP⟩ dX4_readChain_84
            · skip
              exact absurd c_14 (by decide)
          · skip
            exact absurd c_13 (by decide)
        · skip
          have tc_12 := ti_ne c_12
          refine lv_iload G0.1 G0.2.1 dX4_readChain_19 (lv_at hl 0 rfl) ?_
          refine lv_if_ne (tgt := 28) G0.1 G0.2.1 dX4_readChain_21 (by decide) (fun c_153 => ?_) (fun c_153 => ?_)
          · skip
            have tc_153 := ti_ne c_153
            clear iv4
            refine lv_iconst (v := 0) G0.1 G0.2.1 dX4_readChain_28 (by decide) ?_
            refine lv_istore (lv' := [(7, .int 0), (6, .int v_1), (5, .int v_2), (0, .ref h), (1, .ref t), (2, .int 2), (3, .int i), (4, .int b)]) G0.1 G0.2.1 dX4_readChain_29 hl (by decide) rfl (fun ls hl => ?_)
            refine lv_iload_n G0.1 G0.2.1 dX4_readChain_31 rfl (lv_at hl 5 rfl) ?_
            refine lv_iconst (v := 1) G0.1 G0.2.1 dX4_readChain_32 (by decide) ?_
            refine lv_icmp_ne (tgt := 49) G0.1 G0.2.1 dX4_readChain_33 (by decide) (fun c_154 => ?_) (fun c_154 => ?_)
            · skip
              have tc_154 := ti_ne c_154
              refine lv_iload_n G0.1 G0.2.1 dX4_readChain_49 rfl (lv_at hl 5 rfl) ?_
              refine lv_iconst (v := 3) G0.1 G0.2.1 dX4_readChain_50 (by decide) ?_
              refine lv_icmp_ne (tgt := 65) G0.1 G0.2.1 dX4_readChain_51 (by decide) (fun c_155 => ?_) (fun c_155 => ?_)
              · skip
                have tc_155 := ti_ne c_155
                refine lv_aload_n G0.1 G0.2.1 dX4_readChain_65 rfl (lv_at hl 3 rfl) ?_
                refine lv_aload_n G0.1 G0.2.1 dX4_readChain_66 rfl (lv_at hl 4 rfl) ?_
                refine lv_iload_n G0.1 G0.2.1 dX4_readChain_67 rfl (lv_at hl 5 rfl) ?_
                refine lv_iconst (v := 1) G0.1 G0.2.1 dX4_readChain_68 (by decide) ?_
                refine lv_iadd G0.1 G0.2.1 dX4_readChain_69 ?_
                rw [show 2 + 1 = (3 : Int32) by decide]
                refine lv_iload_n G0.1 G0.2.1 dX4_readChain_70 rfl (lv_at hl 6 rfl) ?_
                refine lv_iload G0.1 G0.2.1 dX4_readChain_71 (lv_at hl 0 rfl) ?_
                obtain ⟨r_156, hr_158, ty_157⟩ := wg_4 hWF Th
                refine py_calli hw (va_runV (As := [.ref t, .int 3, .int i, .int 0]) (rest := []) G0 (ih_chain3 L_j6 f_j6 H_j6.size h t i 0 gb nb (tp_a f_j6 t) eb hWF Th Tt ⟨by omega, by omega⟩ (show wb ≤ i.toInt ∧ i.toInt ≤ 6 by omega) (show i.toInt = 6 - ((eb : Nat) : Int) by omega) (show tp_l f_j6 t = nb ∧ tp_a f_j6 t = (tp_a f_j6 t) by omega) (show 0 ≤ (tp_a f_j6 t) ∧ nb ≤ 160 by omega) hTB) (cwV 4 G0.2.2.2.2 g_X4_readChain_X4_readChain_39 rfl rfl rfl (by decide +kernel) ⟨(show f_chain3 + 1 ≤ fr + 1 by omega), (show 8 + (9 + 11) + l_chain3 ≤ lo + 60 by omega)⟩) (py_preV hw (C := RX4) (T := TX4) (N := 1) rfl hr_158) rfl rfl hl.1 rfl (lv_room (Nat.le_of_ble_eq_true rfl)) dX4_readChain_73 ⟨(Nat.le_of_ble_eq_true rfl), (Nat.le_of_ble_eq_true rfl)⟩) (fun r_163 L_159 f_160 H_161 locs hp_162 hw => ?_)
                obtain ⟨b_168, en_164, en_165, en_166, en_167, hWF, hq_169, kp_170⟩ := hp_162
                have hTB := (gfn_kp (kp_f kp_170 (wt_8 hG Tt) (by decide) (by decide) (fun _ => by decide))).trans hTB
                have hRP := hRP.trans hq_169
                have hKP := hKP.trans kp_170 (by decide) (by decide)
                have hr_158 := kp_at kp_170 hWF Th (by decide) (by decide) (by decide) hr_158
                have hW : (rs_sm gb nb eb pb) = rs_af (rs_tm gb nb eb) 2 gb nb (rs_tm gb nb eb (tp_a f_j6 t)) := rs_lp_eb iv5 rfl (by omega)
                refine lv_istore (lv' := [(8, .int r_163), (7, .int 0), (6, .int v_1), (5, .int v_2), (0, .ref h), (1, .ref t), (2, .int 2), (3, .int i), (4, .int b)]) G0.1 G0.2.1 dX4_readChain_76 hl (by decide) rfl (fun ls hl => ?_)
                refine lv_iload G0.1 G0.2.1 dX4_readChain_78 (lv_at hl 0 rfl) ?_
                refine lv_if_ne (tgt := 85) G0.1 G0.2.1 dX4_readChain_80 (by decide) (fun c_171 => ?_) (fun c_171 => ?_)
                · skip
                  have tc_171 := ti_ne c_171
                  replace en_166 := en_166 (by omega)
                  refine lv_iload G0.1 G0.2.1 dX4_readChain_85 (lv_at hl 2 rfl) ?_
                  refine lv_if_le (tgt := 100) G0.1 G0.2.1 dX4_readChain_87 (by decide) (fun c_172 => ?_) (fun c_172 => ?_)
                  · skip
                    have tc_172 := ti_le c_172
                    refine lv_aload_n G0.1 G0.2.1 dX4_readChain_100 rfl (lv_at hl 5 rfl) ?_
                    have t_173 := wt_8 hG Tt
                    obtain ⟨v_174, v_175, v_176, hr_179, b_177, b_178⟩ := wg_8 hWF Tt
                    have bv_176 := wf_free v_176
                    have tq_180 := tp_eq hr_179
                    refine py_calli hw (va_runV (As := []) (rest := []) G0 (c_X8_next l E G L_159 f_160 H_161.size t gb nb ((rs_tm gb nb eb (tp_a f_j6 t))).2 hG hWF Tt (show tp_l f_160 t = nb ∧ tp_a f_160 t = ((rs_tm gb nb eb (tp_a f_j6 t))).2 by omega) (show 0 ≤ ((rs_tm gb nb eb (tp_a f_j6 t))).2 ∧ nb ≤ 160 by omega) hTB) (cwV 0 G0.2.2.2.2 g_X4_readChain_X8_next_35 rfl rfl rfl (by decide +kernel) ⟨(show 0 + 1 ≤ fr + 1 by omega), (show 8 + (1 + 11) + 0 ≤ lo + 60 by omega)⟩) (py_preV hw (C := RX8) (T := TX8) (N := 4) rfl hr_179) rfl rfl hl.1 rfl (lv_room (Nat.le_of_ble_eq_true rfl)) dX4_readChain_101 ⟨(Nat.le_of_ble_eq_true rfl), (Nat.le_of_ble_eq_true rfl)⟩) (fun r_185 L_181 f_182 H_183 locs hp_184 hw => ?_)
                    obtain ⟨en_186, en_187, en_188, en_189, en_190, hWF, hq_191, kp_192⟩ := hp_184
                    have hTB := (gfn_kp (kp_f kp_192 (wt_8 hG Tt) (by decide) (by decide) (fun _ => by decide))).trans hTB
                    have hRP := hRP.trans hq_191
                    have hKP := hKP.trans kp_192 (by decide) (by decide)
                    have hr_158 := kp_at kp_192 hWF Th (by decide) (by decide) (by decide) hr_158
                    have br_185 := wf_free r_185
                    refine lv_istore (lv' := [(5, .int r_185), (8, .int r_163), (7, .int 0), (6, .int v_1), (0, .ref h), (1, .ref t), (2, .int 2), (3, .int i), (4, .int b)]) G0.1 G0.2.1 dX4_readChain_104 hl (by decide) rfl (fun ls hl => ?_)
                    refine lv_iload G0.1 G0.2.1 dX4_readChain_106 (lv_at hl 0 rfl) ?_
                    refine py_calli hw (va_runS (As := [.int r_185]) (rest := []) G0 (c_X4_chainOf l E G L_181 f_182 H_183.size r_185 (rs_v gb nb (rs_sk gb nb ((rs_tm gb nb eb (tp_a f_j6 t))).2)) hG hWF (show r_185.toInt = (rs_v gb nb (rs_sk gb nb ((rs_tm gb nb eb (tp_a f_j6 t))).2)) by omega)) (va_cwS 1 G0.2.2.2.2 g_X4_readChain_X4_chainOf_62 rfl rfl rfl (by decide +kernel) ⟨(show 0 + 1 ≤ fr + 1 by omega), (show 8 + (1 + 11) + 0 ≤ lo + 60 by omega)⟩) (py_preS hw) rfl rfl hl.1 rfl (lv_room (Nat.le_of_ble_eq_true rfl)) dX4_readChain_108 ⟨(Nat.le_of_ble_eq_true rfl), (Nat.le_of_ble_eq_true rfl)⟩) (fun r_197 L_193 f_194 H_195 locs hp_196 hw => ?_)
                    obtain ⟨b_200, en_198, en_199, rfl, rfl⟩ := hp_196
                    refine lv_iload_n G0.1 G0.2.1 dX4_readChain_111 rfl (lv_at hl 6 rfl) ?_
                    refine lv_icmp_eq (tgt := 117) G0.1 G0.2.1 dX4_readChain_112 (by decide) (fun c_201 => ?_) (fun c_201 => ?_)
                    · skip
                      have tc_201 := ti_eq c_201
                      replace en_198 := en_198 (by omega)
                      refine lv_aload_n G0.1 G0.2.1 dX4_readChain_117 rfl (lv_at hl 5 rfl) ?_
                      refine lv_dup G0.1 G0.2.1 dX4_readChain_118 rfl ?_
                      obtain ⟨v_202, v_203, v_204, hr_207, b_205, b_206⟩ := wg_8 hWF Tt
                      have bv_204 := wf_free v_204
                      have tq_208 := tp_eq hr_207
                      refine py_get (C := RX8) (T := TX8) (N := 4) (k := 2) (v := .int v_203) G0 hw in_X4_readChain_X8 rfl hr_207 (by decide) (by decide +kernel) rfl dX4_readChain_119 ?_
                      refine lv_iconst (v := 1) G0.1 G0.2.1 dX4_readChain_122 (by decide) ?_
                      refine lv_iadd G0.1 G0.2.1 dX4_readChain_123 ?_
                      refine lv_topi (fun x_209 ex_209 => ?_)
                      first | have tx_209 := ti_add ex_209 (by omega) (by omega) | skip
                      refine py_put (C := RX8) (T := TX8) (N := 4) (k := 2) (v := .int x_209) (fs' := [.ref (G.2 t 0), .int v_202, .int x_209, .int v_204]) (ty0 := tyX8) G0 hw tyX8_ok nmX8 in_X4_readChain_X8 rfl hr_207 (by decide) (by decide +kernel) rfl rfl rfl rfl (Nat.le_of_ble_eq_true rfl) rfl dX4_readChain_124 (fun f_210 H_211 locs h_212 x_213 hw => ?_)
                      have hTB := (gfn_kp (kp_f (KP.refl.upd hWF x_213 Tt (Or.inl (by decide)) : KP G [9] false f_182 f_210) (wt_8 hG Tt) (by decide) (by decide) (fun _ => by decide))).trans hTB
                      have hKP := hKP.upd hWF x_213 Tt (Or.inl (by decide))
                      have hRP := hRP.trans (rp_upd hG hWF x_213 hr_207.2 h_212.2 (rp_code hG Tt (by decide)) rfl)
                      have hWF := wf_upd hWF h_212 x_213 (by rw [Tt]; exact ⟨v_202, x_209, v_204, rfl, ⟨by omega, by omega⟩, ⟨by omega, by omega⟩⟩)
                      have tq_214 := tp_eq h_212
                      have hr_158 := hr_158.ext x_213 (py_ne_kind hr_158 hr_207 (by decide))
                      obtain ⟨x_215, ex_215⟩ : ∃ y : Int32, y = v_1 + 1 := ⟨_, rfl⟩
                      first | have tx_215 := ti_add ex_215 (by omega) (by omega) | skip
                      refine lv_iinc (v := x_215) (lv' := [(6, .int x_215), (5, .int r_185), (8, .int r_163), (7, .int 0), (0, .ref h), (1, .ref t), (2, .int 2), (3, .int i), (4, .int b)]) G0.1 G0.2.1 dX4_readChain_127 hl (k := 3) rfl (show _ + (1 : Int32) = _ from ex_215.symm) (by decide) rfl (fun ls hl => ?_)
                      refine lv_goto (tgt := 6) G0.1 G0.2.1 dX4_readChain_130 (by decide) ?_
                      exact ih_6 ((2147483647 - x_215.toInt).toNat) (by omega) x_215 r_185 L_181 f_210 _ _ ls rfl ⟨by omega, by omega⟩ hWF hRP hKP hTB (by first | omega | (intros; omega)) (by first | omega | (intros; omega)) (by first | omega | (intros; omega)) (by first | omega | (intros; omega)) (by first | omega | (intros; omega)) (rs_af_on hW (by omega) (by omega) (by omega) (by omega)) hw (lv_sub hl [0, 1, 4, 5, 6, 7, 8] rfl)
                    · skip
                      have tc_201 := ti_ne c_201
                      refine lv_iconst (v := 1) G0.1 G0.2.1 dX4_readChain_115 (by decide) ?_
                      obtain ⟨v_216, v_217, v_218, hr_221, b_219, b_220⟩ := wg_8 hWF Tt
                      have bv_218 := wf_free v_218
                      have tq_222 := tp_eq hr_221
                      exact py_iret G0 hr rfl hlk hw ⟨⟨by omega, by omega⟩, (by first | omega | (intro q; omega)), (by first | omega | (intro q; omega)), (by first | omega | (intro q; omega)), (by first | exact rs_eqw (hW.trans (rs_af_0 (by omega))) (by omega) (by omega) | exact rs_eq (hW.trans (rs_af_e (by omega) (by omega))) (by omega) (by omega) | exact False.elim (by omega)), hWF, hRP, hKP⟩ dX4_readChain_116
                  · skip
                    have tc_172 := ti_nle c_172
                    refine lv_aload_n G0.1 G0.2.1 dX4_readChain_90 rfl (lv_at hl 4 rfl) ?_
                    refine py_get (C := RX4) (T := TX4) (N := 1) (k := 0) (v := .ref r_156) G0 hw in_X4_readChain_X4 rfl hr_158 (by decide) (by decide +kernel) rfl dX4_readChain_91 ?_
                    refine lv_iload G0.1 G0.2.1 dX4_readChain_94 (lv_at hl 3 rfl) ?_
                    refine lv_iconst (v := 0) G0.1 G0.2.1 dX4_readChain_96 (by decide) ?_
                    obtain ⟨t_223, t_224⟩ := wt_3 hG ty_157
                    obtain ⟨v_225, hr_227, b_226⟩ := wg_3 hWF ty_157
                    have t_228 := wt_8 hG Tt
                    obtain ⟨v_229, v_230, v_231, hr_234, b_232, b_233⟩ := wg_8 hWF Tt
                    have bv_231 := wf_free v_231
                    have tq_235 := tp_eq hr_234
                    refine py_callv hw (va_runV (As := [.int v_2, .int 0]) (rest := []) G0 (c_X3_add l E G L_159 f_160 H_161.size r_156 v_2 0 hG hWF ty_157) (cwV 2 G0.2.2.2.2 g_X4_readChain_X3_add_46 rfl rfl rfl (by decide +kernel) ⟨(show 0 + 1 ≤ fr + 1 by omega), (show 8 + (3 + 11) + 0 ≤ lo + 60 by omega)⟩) (py_preV hw (C := RX3) (T := TX3) (N := 3) rfl hr_227) rfl rfl hl.1 rfl (lv_room (Nat.le_of_ble_eq_true rfl)) dX4_readChain_97 ⟨(Nat.le_of_ble_eq_true rfl), (Nat.le_of_ble_eq_true rfl)⟩) (fun L_236 f_237 H_238 locs hp_239 hw => ?_)
                    obtain ⟨hWF, hq_241, kp_242⟩ := hp_239
                    have hTB := (gfn_kp (kp_f kp_242 (wt_8 hG Tt) (by decide) (by decide) (fun _ => by decide))).trans hTB
                    have hRP := hRP.trans hq_241
                    have hKP := hKP.trans kp_242 (by decide) (by decide)
                    have hr_158 := kp_at kp_242 hWF Th (by decide) (by decide) (by decide) hr_158
                    have hr_234 := kp_at kp_242 hWF Tt (by decide) (by decide) (by decide) hr_234
                    have tq_243 := tp_eq hr_234
                    refine lv_aload_n G0.1 G0.2.1 dX4_readChain_100 rfl (lv_at hl 5 rfl) ?_
                    refine py_calli hw (va_runV (As := []) (rest := []) G0 (c_X8_next l E G L_236 f_237 H_238.size t gb nb ((rs_tm gb nb eb (tp_a f_j6 t))).2 hG hWF Tt (show tp_l f_237 t = nb ∧ tp_a f_237 t = ((rs_tm gb nb eb (tp_a f_j6 t))).2 by omega) (show 0 ≤ ((rs_tm gb nb eb (tp_a f_j6 t))).2 ∧ nb ≤ 160 by omega) hTB) (cwV 0 G0.2.2.2.2 g_X4_readChain_X8_next_35 rfl rfl rfl (by decide +kernel) ⟨(show 0 + 1 ≤ fr + 1 by omega), (show 8 + (1 + 11) + 0 ≤ lo + 60 by omega)⟩) (py_preV hw (C := RX8) (T := TX8) (N := 4) rfl hr_234) rfl rfl hl.1 rfl (lv_room (Nat.le_of_ble_eq_true rfl)) dX4_readChain_101 ⟨(Nat.le_of_ble_eq_true rfl), (Nat.le_of_ble_eq_true rfl)⟩) (fun r_248 L_244 f_245 H_246 locs hp_247 hw => ?_)
                    obtain ⟨en_249, en_250, en_251, en_252, en_253, hWF, hq_254, kp_255⟩ := hp_247
                    have hTB := (gfn_kp (kp_f kp_255 (wt_8 hG Tt) (by decide) (by decide) (fun _ => by decide))).trans hTB
                    have hRP := hRP.trans hq_254
                    have hKP := hKP.trans kp_255 (by decide) (by decide)
                    have hr_158 := kp_at kp_255 hWF Th (by decide) (by decide) (by decide) hr_158
                    have br_248 := wf_free r_248
                    refine lv_istore (lv' := [(5, .int r_248), (8, .int r_163), (7, .int 0), (6, .int v_1), (0, .ref h), (1, .ref t), (2, .int 2), (3, .int i), (4, .int b)]) G0.1 G0.2.1 dX4_readChain_104 hl (by decide) rfl (fun ls hl => ?_)
                    refine lv_iload G0.1 G0.2.1 dX4_readChain_106 (lv_at hl 0 rfl) ?_
                    refine py_calli hw (va_runS (As := [.int r_248]) (rest := []) G0 (c_X4_chainOf l E G L_244 f_245 H_246.size r_248 (rs_v gb nb (rs_sk gb nb ((rs_tm gb nb eb (tp_a f_j6 t))).2)) hG hWF (show r_248.toInt = (rs_v gb nb (rs_sk gb nb ((rs_tm gb nb eb (tp_a f_j6 t))).2)) by omega)) (va_cwS 1 G0.2.2.2.2 g_X4_readChain_X4_chainOf_62 rfl rfl rfl (by decide +kernel) ⟨(show 0 + 1 ≤ fr + 1 by omega), (show 8 + (1 + 11) + 0 ≤ lo + 60 by omega)⟩) (py_preS hw) rfl rfl hl.1 rfl (lv_room (Nat.le_of_ble_eq_true rfl)) dX4_readChain_108 ⟨(Nat.le_of_ble_eq_true rfl), (Nat.le_of_ble_eq_true rfl)⟩) (fun r_260 L_256 f_257 H_258 locs hp_259 hw => ?_)
                    obtain ⟨b_263, en_261, en_262, rfl, rfl⟩ := hp_259
                    refine lv_iload_n G0.1 G0.2.1 dX4_readChain_111 rfl (lv_at hl 6 rfl) ?_
                    refine lv_icmp_eq (tgt := 117) G0.1 G0.2.1 dX4_readChain_112 (by decide) (fun c_264 => ?_) (fun c_264 => ?_)
                    · skip
                      have tc_264 := ti_eq c_264
                      replace en_261 := en_261 (by omega)
                      refine lv_aload_n G0.1 G0.2.1 dX4_readChain_117 rfl (lv_at hl 5 rfl) ?_
                      refine lv_dup G0.1 G0.2.1 dX4_readChain_118 rfl ?_
                      obtain ⟨v_265, v_266, v_267, hr_270, b_268, b_269⟩ := wg_8 hWF Tt
                      have bv_267 := wf_free v_267
                      have tq_271 := tp_eq hr_270
                      refine py_get (C := RX8) (T := TX8) (N := 4) (k := 2) (v := .int v_266) G0 hw in_X4_readChain_X8 rfl hr_270 (by decide) (by decide +kernel) rfl dX4_readChain_119 ?_
                      refine lv_iconst (v := 1) G0.1 G0.2.1 dX4_readChain_122 (by decide) ?_
                      refine lv_iadd G0.1 G0.2.1 dX4_readChain_123 ?_
                      refine lv_topi (fun x_272 ex_272 => ?_)
                      first | have tx_272 := ti_add ex_272 (by omega) (by omega) | skip
                      refine py_put (C := RX8) (T := TX8) (N := 4) (k := 2) (v := .int x_272) (fs' := [.ref (G.2 t 0), .int v_265, .int x_272, .int v_267]) (ty0 := tyX8) G0 hw tyX8_ok nmX8 in_X4_readChain_X8 rfl hr_270 (by decide) (by decide +kernel) rfl rfl rfl rfl (Nat.le_of_ble_eq_true rfl) rfl dX4_readChain_124 (fun f_273 H_274 locs h_275 x_276 hw => ?_)
                      have hTB := (gfn_kp (kp_f (KP.refl.upd hWF x_276 Tt (Or.inl (by decide)) : KP G [9] false f_245 f_273) (wt_8 hG Tt) (by decide) (by decide) (fun _ => by decide))).trans hTB
                      have hKP := hKP.upd hWF x_276 Tt (Or.inl (by decide))
                      have hRP := hRP.trans (rp_upd hG hWF x_276 hr_270.2 h_275.2 (rp_code hG Tt (by decide)) rfl)
                      have hWF := wf_upd hWF h_275 x_276 (by rw [Tt]; exact ⟨v_265, x_272, v_267, rfl, ⟨by omega, by omega⟩, ⟨by omega, by omega⟩⟩)
                      have tq_277 := tp_eq h_275
                      have hr_158 := hr_158.ext x_276 (py_ne_kind hr_158 hr_270 (by decide))
                      obtain ⟨x_278, ex_278⟩ : ∃ y : Int32, y = v_1 + 1 := ⟨_, rfl⟩
                      first | have tx_278 := ti_add ex_278 (by omega) (by omega) | skip
                      refine lv_iinc (v := x_278) (lv' := [(6, .int x_278), (5, .int r_248), (8, .int r_163), (7, .int 0), (0, .ref h), (1, .ref t), (2, .int 2), (3, .int i), (4, .int b)]) G0.1 G0.2.1 dX4_readChain_127 hl (k := 3) rfl (show _ + (1 : Int32) = _ from ex_278.symm) (by decide) rfl (fun ls hl => ?_)
                      refine lv_goto (tgt := 6) G0.1 G0.2.1 dX4_readChain_130 (by decide) ?_
                      exact ih_6 ((2147483647 - x_278.toInt).toNat) (by omega) x_278 r_248 L_244 f_273 _ _ ls rfl ⟨by omega, by omega⟩ hWF hRP hKP hTB (by first | omega | (intros; omega)) (by first | omega | (intros; omega)) (by first | omega | (intros; omega)) (by first | omega | (intros; omega)) (by first | omega | (intros; omega)) (rs_af_on hW (by omega) (by omega) (by omega) (by omega)) hw (lv_sub hl [0, 1, 4, 5, 6, 7, 8] rfl)
                    · skip
                      have tc_264 := ti_ne c_264
                      refine lv_iconst (v := 1) G0.1 G0.2.1 dX4_readChain_115 (by decide) ?_
                      obtain ⟨v_279, v_280, v_281, hr_284, b_282, b_283⟩ := wg_8 hWF Tt
                      have bv_281 := wf_free v_281
                      have tq_285 := tp_eq hr_284
                      exact py_iret G0 hr rfl hlk hw ⟨⟨by omega, by omega⟩, (by first | omega | (intro q; omega)), (by first | omega | (intro q; omega)), (by first | omega | (intro q; omega)), (by first | exact rs_eqw (hW.trans (rs_af_0 (by omega))) (by omega) (by omega) | exact rs_eq (hW.trans (rs_af_e (by omega) (by omega))) (by omega) (by omega) | exact False.elim (by omega)), hWF, hRP, hKP⟩ dX4_readChain_116
                · skip
                  have tc_171 := ti_eq c_171
                  clear en_166
                  refine lv_iconst (v := 0) G0.1 G0.2.1 dX4_readChain_83 (by decide) ?_
                  have t_286 := wt_8 hG Tt
                  obtain ⟨v_287, v_288, v_289, hr_292, b_290, b_291⟩ := wg_8 hWF Tt
                  have bv_289 := wf_free v_289
                  have tq_293 := tp_eq hr_292
                  exact py_iret G0 hr rfl hlk hw ⟨⟨by omega, by omega⟩, (by first | omega | (intro q; omega)), (by first | omega | (intro q; omega)), (by first | omega | (intro q; omega)), (by first | exact rs_eqw (hW.trans (rs_af_0 (by omega))) (by omega) (by omega) | exact rs_eq (hW.trans (rs_af_e (by omega) (by omega))) (by omega) (by omega) | exact False.elim (by omega)), hWF, hRP, hKP⟩ dX4_readChain_84
              · skip
                exact absurd c_155 (by decide)
            · skip
              exact absurd c_154 (by decide)
          · skip
            have tc_153 := ti_eq c_153
            replace iv4 := iv4 (by omega)
            refine lv_iconst (v := 1) G0.1 G0.2.1 dX4_readChain_24 (by decide) ?_
            refine lv_goto (tgt := 29) G0.1 G0.2.1 dX4_readChain_25 (by decide) ?_
            refine lv_istore (lv' := [(7, .int 1), (6, .int v_1), (5, .int v_2), (0, .ref h), (1, .ref t), (2, .int 2), (3, .int i), (4, .int b)]) G0.1 G0.2.1 dX4_readChain_29 hl (by decide) rfl (fun ls hl => ?_)
            refine lv_iload_n G0.1 G0.2.1 dX4_readChain_31 rfl (lv_at hl 5 rfl) ?_
            refine lv_iconst (v := 1) G0.1 G0.2.1 dX4_readChain_32 (by decide) ?_
            refine lv_icmp_ne (tgt := 49) G0.1 G0.2.1 dX4_readChain_33 (by decide) (fun c_294 => ?_) (fun c_294 => ?_)
            · skip
              have tc_294 := ti_ne c_294
              refine lv_iload_n G0.1 G0.2.1 dX4_readChain_49 rfl (lv_at hl 5 rfl) ?_
              refine lv_iconst (v := 3) G0.1 G0.2.1 dX4_readChain_50 (by decide) ?_
              refine lv_icmp_ne (tgt := 65) G0.1 G0.2.1 dX4_readChain_51 (by decide) (fun c_295 => ?_) (fun c_295 => ?_)
              · skip
                have tc_295 := ti_ne c_295
                refine lv_aload_n G0.1 G0.2.1 dX4_readChain_65 rfl (lv_at hl 3 rfl) ?_
                refine lv_aload_n G0.1 G0.2.1 dX4_readChain_66 rfl (lv_at hl 4 rfl) ?_
                refine lv_iload_n G0.1 G0.2.1 dX4_readChain_67 rfl (lv_at hl 5 rfl) ?_
                refine lv_iconst (v := 1) G0.1 G0.2.1 dX4_readChain_68 (by decide) ?_
                refine lv_iadd G0.1 G0.2.1 dX4_readChain_69 ?_
                rw [show 2 + 1 = (3 : Int32) by decide]
                refine lv_iload_n G0.1 G0.2.1 dX4_readChain_70 rfl (lv_at hl 6 rfl) ?_
                refine lv_iload G0.1 G0.2.1 dX4_readChain_71 (lv_at hl 0 rfl) ?_
                obtain ⟨r_296, hr_298, ty_297⟩ := wg_4 hWF Th
                refine py_calli hw (va_runV (As := [.ref t, .int 3, .int i, .int 1]) (rest := []) G0 (ih_chain3 L_j6 f_j6 H_j6.size h t i 1 gb nb (tp_a f_j6 t) eb hWF Th Tt ⟨by omega, by omega⟩ (show wb ≤ i.toInt ∧ i.toInt ≤ 6 by omega) (show i.toInt = 6 - ((eb : Nat) : Int) by omega) (show tp_l f_j6 t = nb ∧ tp_a f_j6 t = (tp_a f_j6 t) by omega) (show 0 ≤ (tp_a f_j6 t) ∧ nb ≤ 160 by omega) hTB) (cwV 4 G0.2.2.2.2 g_X4_readChain_X4_readChain_39 rfl rfl rfl (by decide +kernel) ⟨(show f_chain3 + 1 ≤ fr + 1 by omega), (show 8 + (9 + 11) + l_chain3 ≤ lo + 60 by omega)⟩) (py_preV hw (C := RX4) (T := TX4) (N := 1) rfl hr_298) rfl rfl hl.1 rfl (lv_room (Nat.le_of_ble_eq_true rfl)) dX4_readChain_73 ⟨(Nat.le_of_ble_eq_true rfl), (Nat.le_of_ble_eq_true rfl)⟩) (fun r_303 L_299 f_300 H_301 locs hp_302 hw => ?_)
                obtain ⟨b_308, en_304, en_305, en_306, en_307, hWF, hq_309, kp_310⟩ := hp_302
                have hTB := (gfn_kp (kp_f kp_310 (wt_8 hG Tt) (by decide) (by decide) (fun _ => by decide))).trans hTB
                have hRP := hRP.trans hq_309
                have hKP := hKP.trans kp_310 (by decide) (by decide)
                have hr_298 := kp_at kp_310 hWF Th (by decide) (by decide) (by decide) hr_298
                have hW : (rs_sm gb nb eb pb) = rs_af (rs_tm gb nb eb) 2 gb nb (rs_tm gb nb eb (tp_a f_j6 t)) := rs_lp_eb iv5 rfl (by omega)
                refine lv_istore (lv' := [(8, .int r_303), (7, .int 1), (6, .int v_1), (5, .int v_2), (0, .ref h), (1, .ref t), (2, .int 2), (3, .int i), (4, .int b)]) G0.1 G0.2.1 dX4_readChain_76 hl (by decide) rfl (fun ls hl => ?_)
                refine lv_iload G0.1 G0.2.1 dX4_readChain_78 (lv_at hl 0 rfl) ?_
                refine lv_if_ne (tgt := 85) G0.1 G0.2.1 dX4_readChain_80 (by decide) (fun c_311 => ?_) (fun c_311 => ?_)
                · skip
                  have tc_311 := ti_ne c_311
                  replace en_306 := en_306 (by omega)
                  refine lv_iload G0.1 G0.2.1 dX4_readChain_85 (lv_at hl 2 rfl) ?_
                  refine lv_if_le (tgt := 100) G0.1 G0.2.1 dX4_readChain_87 (by decide) (fun c_312 => ?_) (fun c_312 => ?_)
                  · skip
                    have tc_312 := ti_le c_312
                    refine lv_aload_n G0.1 G0.2.1 dX4_readChain_100 rfl (lv_at hl 5 rfl) ?_
                    have t_313 := wt_8 hG Tt
                    obtain ⟨v_314, v_315, v_316, hr_319, b_317, b_318⟩ := wg_8 hWF Tt
                    have bv_316 := wf_free v_316
                    have tq_320 := tp_eq hr_319
                    refine py_calli hw (va_runV (As := []) (rest := []) G0 (c_X8_next l E G L_299 f_300 H_301.size t gb nb ((rs_tm gb nb eb (tp_a f_j6 t))).2 hG hWF Tt (show tp_l f_300 t = nb ∧ tp_a f_300 t = ((rs_tm gb nb eb (tp_a f_j6 t))).2 by omega) (show 0 ≤ ((rs_tm gb nb eb (tp_a f_j6 t))).2 ∧ nb ≤ 160 by omega) hTB) (cwV 0 G0.2.2.2.2 g_X4_readChain_X8_next_35 rfl rfl rfl (by decide +kernel) ⟨(show 0 + 1 ≤ fr + 1 by omega), (show 8 + (1 + 11) + 0 ≤ lo + 60 by omega)⟩) (py_preV hw (C := RX8) (T := TX8) (N := 4) rfl hr_319) rfl rfl hl.1 rfl (lv_room (Nat.le_of_ble_eq_true rfl)) dX4_readChain_101 ⟨(Nat.le_of_ble_eq_true rfl), (Nat.le_of_ble_eq_true rfl)⟩) (fun r_325 L_321 f_322 H_323 locs hp_324 hw => ?_)
                    obtain ⟨en_326, en_327, en_328, en_329, en_330, hWF, hq_331, kp_332⟩ := hp_324
                    have hTB := (gfn_kp (kp_f kp_332 (wt_8 hG Tt) (by decide) (by decide) (fun _ => by decide))).trans hTB
                    have hRP := hRP.trans hq_331
                    have hKP := hKP.trans kp_332 (by decide) (by decide)
                    have hr_298 := kp_at kp_332 hWF Th (by decide) (by decide) (by decide) hr_298
                    have br_325 := wf_free r_325
                    refine lv_istore (lv' := [(5, .int r_325), (8, .int r_303), (7, .int 1), (6, .int v_1), (0, .ref h), (1, .ref t), (2, .int 2), (3, .int i), (4, .int b)]) G0.1 G0.2.1 dX4_readChain_104 hl (by decide) rfl (fun ls hl => ?_)
                    refine lv_iload G0.1 G0.2.1 dX4_readChain_106 (lv_at hl 0 rfl) ?_
                    refine py_calli hw (va_runS (As := [.int r_325]) (rest := []) G0 (c_X4_chainOf l E G L_321 f_322 H_323.size r_325 (rs_v gb nb (rs_sk gb nb ((rs_tm gb nb eb (tp_a f_j6 t))).2)) hG hWF (show r_325.toInt = (rs_v gb nb (rs_sk gb nb ((rs_tm gb nb eb (tp_a f_j6 t))).2)) by omega)) (va_cwS 1 G0.2.2.2.2 g_X4_readChain_X4_chainOf_62 rfl rfl rfl (by decide +kernel) ⟨(show 0 + 1 ≤ fr + 1 by omega), (show 8 + (1 + 11) + 0 ≤ lo + 60 by omega)⟩) (py_preS hw) rfl rfl hl.1 rfl (lv_room (Nat.le_of_ble_eq_true rfl)) dX4_readChain_108 ⟨(Nat.le_of_ble_eq_true rfl), (Nat.le_of_ble_eq_true rfl)⟩) (fun r_337 L_333 f_334 H_335 locs hp_336 hw => ?_)
                    obtain ⟨b_340, en_338, en_339, rfl, rfl⟩ := hp_336
                    refine lv_iload_n G0.1 G0.2.1 dX4_readChain_111 rfl (lv_at hl 6 rfl) ?_
                    refine lv_icmp_eq (tgt := 117) G0.1 G0.2.1 dX4_readChain_112 (by decide) (fun c_341 => ?_) (fun c_341 => ?_)
                    · skip
                      have tc_341 := ti_eq c_341
                      replace en_338 := en_338 (by omega)
                      refine lv_aload_n G0.1 G0.2.1 dX4_readChain_117 rfl (lv_at hl 5 rfl) ?_
                      refine lv_dup G0.1 G0.2.1 dX4_readChain_118 rfl ?_
                      obtain ⟨v_342, v_343, v_344, hr_347, b_345, b_346⟩ := wg_8 hWF Tt
                      have bv_344 := wf_free v_344
                      have tq_348 := tp_eq hr_347
                      refine py_get (C := RX8) (T := TX8) (N := 4) (k := 2) (v := .int v_343) G0 hw in_X4_readChain_X8 rfl hr_347 (by decide) (by decide +kernel) rfl dX4_readChain_119 ?_
                      refine lv_iconst (v := 1) G0.1 G0.2.1 dX4_readChain_122 (by decide) ?_
                      refine lv_iadd G0.1 G0.2.1 dX4_readChain_123 ?_
                      refine lv_topi (fun x_349 ex_349 => ?_)
                      first | have tx_349 := ti_add ex_349 (by omega) (by omega) | skip
                      refine py_put (C := RX8) (T := TX8) (N := 4) (k := 2) (v := .int x_349) (fs' := [.ref (G.2 t 0), .int v_342, .int x_349, .int v_344]) (ty0 := tyX8) G0 hw tyX8_ok nmX8 in_X4_readChain_X8 rfl hr_347 (by decide) (by decide +kernel) rfl rfl rfl rfl (Nat.le_of_ble_eq_true rfl) rfl dX4_readChain_124 (fun f_350 H_351 locs h_352 x_353 hw => ?_)
                      have hTB := (gfn_kp (kp_f (KP.refl.upd hWF x_353 Tt (Or.inl (by decide)) : KP G [9] false f_322 f_350) (wt_8 hG Tt) (by decide) (by decide) (fun _ => by decide))).trans hTB
                      have hKP := hKP.upd hWF x_353 Tt (Or.inl (by decide))
                      have hRP := hRP.trans (rp_upd hG hWF x_353 hr_347.2 h_352.2 (rp_code hG Tt (by decide)) rfl)
                      have hWF := wf_upd hWF h_352 x_353 (by rw [Tt]; exact ⟨v_342, x_349, v_344, rfl, ⟨by omega, by omega⟩, ⟨by omega, by omega⟩⟩)
                      have tq_354 := tp_eq h_352
                      have hr_298 := hr_298.ext x_353 (py_ne_kind hr_298 hr_347 (by decide))
                      obtain ⟨x_355, ex_355⟩ : ∃ y : Int32, y = v_1 + 1 := ⟨_, rfl⟩
                      first | have tx_355 := ti_add ex_355 (by omega) (by omega) | skip
                      refine lv_iinc (v := x_355) (lv' := [(6, .int x_355), (5, .int r_325), (8, .int r_303), (7, .int 1), (0, .ref h), (1, .ref t), (2, .int 2), (3, .int i), (4, .int b)]) G0.1 G0.2.1 dX4_readChain_127 hl (k := 3) rfl (show _ + (1 : Int32) = _ from ex_355.symm) (by decide) rfl (fun ls hl => ?_)
                      refine lv_goto (tgt := 6) G0.1 G0.2.1 dX4_readChain_130 (by decide) ?_
                      exact ih_6 ((2147483647 - x_355.toInt).toNat) (by omega) x_355 r_325 L_321 f_350 _ _ ls rfl ⟨by omega, by omega⟩ hWF hRP hKP hTB (by first | omega | (intros; omega)) (by first | omega | (intros; omega)) (by first | omega | (intros; omega)) (by first | omega | (intros; omega)) (by first | omega | (intros; omega)) (rs_af_on hW (by omega) (by omega) (by omega) (by omega)) hw (lv_sub hl [0, 1, 4, 5, 6, 7, 8] rfl)
                    · skip
                      have tc_341 := ti_ne c_341
                      refine lv_iconst (v := 1) G0.1 G0.2.1 dX4_readChain_115 (by decide) ?_
                      obtain ⟨v_356, v_357, v_358, hr_361, b_359, b_360⟩ := wg_8 hWF Tt
                      have bv_358 := wf_free v_358
                      have tq_362 := tp_eq hr_361
                      exact py_iret G0 hr rfl hlk hw ⟨⟨by omega, by omega⟩, (by first | omega | (intro q; omega)), (by first | omega | (intro q; omega)), (by first | omega | (intro q; omega)), (by first | exact rs_eqw (hW.trans (rs_af_0 (by omega))) (by omega) (by omega) | exact rs_eq (hW.trans (rs_af_e (by omega) (by omega))) (by omega) (by omega) | exact False.elim (by omega)), hWF, hRP, hKP⟩ dX4_readChain_116
                  · skip
                    have tc_312 := ti_nle c_312
                    refine lv_aload_n G0.1 G0.2.1 dX4_readChain_90 rfl (lv_at hl 4 rfl) ?_
                    refine py_get (C := RX4) (T := TX4) (N := 1) (k := 0) (v := .ref r_296) G0 hw in_X4_readChain_X4 rfl hr_298 (by decide) (by decide +kernel) rfl dX4_readChain_91 ?_
                    refine lv_iload G0.1 G0.2.1 dX4_readChain_94 (lv_at hl 3 rfl) ?_
                    refine lv_iconst (v := 0) G0.1 G0.2.1 dX4_readChain_96 (by decide) ?_
                    obtain ⟨t_363, t_364⟩ := wt_3 hG ty_297
                    obtain ⟨v_365, hr_367, b_366⟩ := wg_3 hWF ty_297
                    have t_368 := wt_8 hG Tt
                    obtain ⟨v_369, v_370, v_371, hr_374, b_372, b_373⟩ := wg_8 hWF Tt
                    have bv_371 := wf_free v_371
                    have tq_375 := tp_eq hr_374
                    refine py_callv hw (va_runV (As := [.int v_2, .int 0]) (rest := []) G0 (c_X3_add l E G L_299 f_300 H_301.size r_296 v_2 0 hG hWF ty_297) (cwV 2 G0.2.2.2.2 g_X4_readChain_X3_add_46 rfl rfl rfl (by decide +kernel) ⟨(show 0 + 1 ≤ fr + 1 by omega), (show 8 + (3 + 11) + 0 ≤ lo + 60 by omega)⟩) (py_preV hw (C := RX3) (T := TX3) (N := 3) rfl hr_367) rfl rfl hl.1 rfl (lv_room (Nat.le_of_ble_eq_true rfl)) dX4_readChain_97 ⟨(Nat.le_of_ble_eq_true rfl), (Nat.le_of_ble_eq_true rfl)⟩) (fun L_376 f_377 H_378 locs hp_379 hw => ?_)
                    obtain ⟨hWF, hq_381, kp_382⟩ := hp_379
                    have hTB := (gfn_kp (kp_f kp_382 (wt_8 hG Tt) (by decide) (by decide) (fun _ => by decide))).trans hTB
                    have hRP := hRP.trans hq_381
                    have hKP := hKP.trans kp_382 (by decide) (by decide)
                    have hr_298 := kp_at kp_382 hWF Th (by decide) (by decide) (by decide) hr_298
                    have hr_374 := kp_at kp_382 hWF Tt (by decide) (by decide) (by decide) hr_374
                    have tq_383 := tp_eq hr_374
                    refine lv_aload_n G0.1 G0.2.1 dX4_readChain_100 rfl (lv_at hl 5 rfl) ?_
                    refine py_calli hw (va_runV (As := []) (rest := []) G0 (c_X8_next l E G L_376 f_377 H_378.size t gb nb ((rs_tm gb nb eb (tp_a f_j6 t))).2 hG hWF Tt (show tp_l f_377 t = nb ∧ tp_a f_377 t = ((rs_tm gb nb eb (tp_a f_j6 t))).2 by omega) (show 0 ≤ ((rs_tm gb nb eb (tp_a f_j6 t))).2 ∧ nb ≤ 160 by omega) hTB) (cwV 0 G0.2.2.2.2 g_X4_readChain_X8_next_35 rfl rfl rfl (by decide +kernel) ⟨(show 0 + 1 ≤ fr + 1 by omega), (show 8 + (1 + 11) + 0 ≤ lo + 60 by omega)⟩) (py_preV hw (C := RX8) (T := TX8) (N := 4) rfl hr_374) rfl rfl hl.1 rfl (lv_room (Nat.le_of_ble_eq_true rfl)) dX4_readChain_101 ⟨(Nat.le_of_ble_eq_true rfl), (Nat.le_of_ble_eq_true rfl)⟩) (fun r_388 L_384 f_385 H_386 locs hp_387 hw => ?_)
                    obtain ⟨en_389, en_390, en_391, en_392, en_393, hWF, hq_394, kp_395⟩ := hp_387
                    have hTB := (gfn_kp (kp_f kp_395 (wt_8 hG Tt) (by decide) (by decide) (fun _ => by decide))).trans hTB
                    have hRP := hRP.trans hq_394
                    have hKP := hKP.trans kp_395 (by decide) (by decide)
                    have hr_298 := kp_at kp_395 hWF Th (by decide) (by decide) (by decide) hr_298
                    have br_388 := wf_free r_388
                    refine lv_istore (lv' := [(5, .int r_388), (8, .int r_303), (7, .int 1), (6, .int v_1), (0, .ref h), (1, .ref t), (2, .int 2), (3, .int i), (4, .int b)]) G0.1 G0.2.1 dX4_readChain_104 hl (by decide) rfl (fun ls hl => ?_)
                    refine lv_iload G0.1 G0.2.1 dX4_readChain_106 (lv_at hl 0 rfl) ?_
                    refine py_calli hw (va_runS (As := [.int r_388]) (rest := []) G0 (c_X4_chainOf l E G L_384 f_385 H_386.size r_388 (rs_v gb nb (rs_sk gb nb ((rs_tm gb nb eb (tp_a f_j6 t))).2)) hG hWF (show r_388.toInt = (rs_v gb nb (rs_sk gb nb ((rs_tm gb nb eb (tp_a f_j6 t))).2)) by omega)) (va_cwS 1 G0.2.2.2.2 g_X4_readChain_X4_chainOf_62 rfl rfl rfl (by decide +kernel) ⟨(show 0 + 1 ≤ fr + 1 by omega), (show 8 + (1 + 11) + 0 ≤ lo + 60 by omega)⟩) (py_preS hw) rfl rfl hl.1 rfl (lv_room (Nat.le_of_ble_eq_true rfl)) dX4_readChain_108 ⟨(Nat.le_of_ble_eq_true rfl), (Nat.le_of_ble_eq_true rfl)⟩) (fun r_400 L_396 f_397 H_398 locs hp_399 hw => ?_)
                    obtain ⟨b_403, en_401, en_402, rfl, rfl⟩ := hp_399
                    refine lv_iload_n G0.1 G0.2.1 dX4_readChain_111 rfl (lv_at hl 6 rfl) ?_
                    refine lv_icmp_eq (tgt := 117) G0.1 G0.2.1 dX4_readChain_112 (by decide) (fun c_404 => ?_) (fun c_404 => ?_)
                    · skip
                      have tc_404 := ti_eq c_404
                      replace en_401 := en_401 (by omega)
                      refine lv_aload_n G0.1 G0.2.1 dX4_readChain_117 rfl (lv_at hl 5 rfl) ?_
                      refine lv_dup G0.1 G0.2.1 dX4_readChain_118 rfl ?_
                      obtain ⟨v_405, v_406, v_407, hr_410, b_408, b_409⟩ := wg_8 hWF Tt
                      have bv_407 := wf_free v_407
                      have tq_411 := tp_eq hr_410
                      refine py_get (C := RX8) (T := TX8) (N := 4) (k := 2) (v := .int v_406) G0 hw in_X4_readChain_X8 rfl hr_410 (by decide) (by decide +kernel) rfl dX4_readChain_119 ?_
                      refine lv_iconst (v := 1) G0.1 G0.2.1 dX4_readChain_122 (by decide) ?_
                      refine lv_iadd G0.1 G0.2.1 dX4_readChain_123 ?_
                      refine lv_topi (fun x_412 ex_412 => ?_)
                      first | have tx_412 := ti_add ex_412 (by omega) (by omega) | skip
                      refine py_put (C := RX8) (T := TX8) (N := 4) (k := 2) (v := .int x_412) (fs' := [.ref (G.2 t 0), .int v_405, .int x_412, .int v_407]) (ty0 := tyX8) G0 hw tyX8_ok nmX8 in_X4_readChain_X8 rfl hr_410 (by decide) (by decide +kernel) rfl rfl rfl rfl (Nat.le_of_ble_eq_true rfl) rfl dX4_readChain_124 (fun f_413 H_414 locs h_415 x_416 hw => ?_)
                      have hTB := (gfn_kp (kp_f (KP.refl.upd hWF x_416 Tt (Or.inl (by decide)) : KP G [9] false f_385 f_413) (wt_8 hG Tt) (by decide) (by decide) (fun _ => by decide))).trans hTB
                      have hKP := hKP.upd hWF x_416 Tt (Or.inl (by decide))
                      have hRP := hRP.trans (rp_upd hG hWF x_416 hr_410.2 h_415.2 (rp_code hG Tt (by decide)) rfl)
                      have hWF := wf_upd hWF h_415 x_416 (by rw [Tt]; exact ⟨v_405, x_412, v_407, rfl, ⟨by omega, by omega⟩, ⟨by omega, by omega⟩⟩)
                      have tq_417 := tp_eq h_415
                      have hr_298 := hr_298.ext x_416 (py_ne_kind hr_298 hr_410 (by decide))
                      obtain ⟨x_418, ex_418⟩ : ∃ y : Int32, y = v_1 + 1 := ⟨_, rfl⟩
                      first | have tx_418 := ti_add ex_418 (by omega) (by omega) | skip
                      refine lv_iinc (v := x_418) (lv' := [(6, .int x_418), (5, .int r_388), (8, .int r_303), (7, .int 1), (0, .ref h), (1, .ref t), (2, .int 2), (3, .int i), (4, .int b)]) G0.1 G0.2.1 dX4_readChain_127 hl (k := 3) rfl (show _ + (1 : Int32) = _ from ex_418.symm) (by decide) rfl (fun ls hl => ?_)
                      refine lv_goto (tgt := 6) G0.1 G0.2.1 dX4_readChain_130 (by decide) ?_
                      exact ih_6 ((2147483647 - x_418.toInt).toNat) (by omega) x_418 r_388 L_384 f_413 _ _ ls rfl ⟨by omega, by omega⟩ hWF hRP hKP hTB (by first | omega | (intros; omega)) (by first | omega | (intros; omega)) (by first | omega | (intros; omega)) (by first | omega | (intros; omega)) (by first | omega | (intros; omega)) (rs_af_on hW (by omega) (by omega) (by omega) (by omega)) hw (lv_sub hl [0, 1, 4, 5, 6, 7, 8] rfl)
                    · skip
                      have tc_404 := ti_ne c_404
                      refine lv_iconst (v := 1) G0.1 G0.2.1 dX4_readChain_115 (by decide) ?_
                      obtain ⟨v_419, v_420, v_421, hr_424, b_422, b_423⟩ := wg_8 hWF Tt
                      have bv_421 := wf_free v_421
                      have tq_425 := tp_eq hr_424
                      exact py_iret G0 hr rfl hlk hw ⟨⟨by omega, by omega⟩, (by first | omega | (intro q; omega)), (by first | omega | (intro q; omega)), (by first | omega | (intro q; omega)), (by first | exact rs_eqw (hW.trans (rs_af_0 (by omega))) (by omega) (by omega) | exact rs_eq (hW.trans (rs_af_e (by omega) (by omega))) (by omega) (by omega) | exact False.elim (by omega)), hWF, hRP, hKP⟩ dX4_readChain_116
                · skip
                  have tc_311 := ti_eq c_311
                  clear en_306
                  refine lv_iconst (v := 0) G0.1 G0.2.1 dX4_readChain_83 (by decide) ?_
                  have t_426 := wt_8 hG Tt
                  obtain ⟨v_427, v_428, v_429, hr_432, b_430, b_431⟩ := wg_8 hWF Tt
                  have bv_429 := wf_free v_429
                  have tq_433 := tp_eq hr_432
                  exact py_iret G0 hr rfl hlk hw ⟨⟨by omega, by omega⟩, (by first | omega | (intro q; omega)), (by first | omega | (intro q; omega)), (by first | omega | (intro q; omega)), (by first | exact rs_eqw (hW.trans (rs_af_0 (by omega))) (by omega) (by omega) | exact rs_eq (hW.trans (rs_af_e (by omega) (by omega))) (by omega) (by omega) | exact False.elim (by omega)), hWF, hRP, hKP⟩ dX4_readChain_84
              · skip
                exact absurd c_295 (by decide)
            · skip
              exact absurd c_294 (by decide)
  exact lo_6 _ 0 0 L f _ _ ls rfl ⟨by omega, by omega⟩ hWF hRP hKP hTB (by first | omega | (intros; omega)) (by first | omega | (intros; omega)) (by first | omega | (intros; omega)) (by first | omega | (intros; omega)) (by first | omega | (intros; omega)) (by rw [show tp_a f t = pb by omega, rs_sm_eq]) hw (lv_sub hl [0, 1, 2, 3, 4, 5, 6] rfl)
