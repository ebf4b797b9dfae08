
set_option maxHeartbeats 4000000 in
set_option maxRecDepth 100000 in
theorem c_X10_readItems4 (l : Launch) (E : py_E) (G : wf_G) (L : List Nat) (f : py_F) (sz : Nat) (h : Nat) (t : Nat) (gb : rs_B) (nb : Int) (pb : Int) (hG : GT G) (hWF : WF E G L f) (Th : G.1 h = 11) (Tt : G.1 t = 9) (hp0 : tp_l f t = nb ∧ tp_a f t = pb) (hp1 : 0 ≤ pb ∧ nb ≤ 160) (hq0 : gfn f (G.2 t 0) = gb) : Met l yX10_readItems w_X10_readItems ({ frames := 3, cells := 0, slots := 0, locals := 65 }) (py_Pc E [.ref h, .ref t, .int 4] L f sz) (py_Qi E L f sz (fun r L1 f1 => (0 ≤ r.toInt ∧ r.toInt ≤ 1) ∧ (tp_l f1 t = nb) ∧ (pb ≤ tp_a f1 t) ∧ (r.toInt ≠ 0 → tp_a f1 t ≤ nb ∨ tp_a f1 t = pb) ∧ (0 ≤ it0 f1 (G.2 h 0) ∧ it0 f1 (G.2 h 0) ≤ 20 ∧ 0 ≤ it1 f1 (G.2 h 0) ∧ it1 f1 (G.2 h 0) ≤ 7) ∧ (ri_X (rv_is gb nb 0 pb) r.toInt (tp_a f1 t) (it0 f1 (G.2 h 0)) (it1 f1 (G.2 h 0))) ∧ WF E G L1 f1 ∧ RP E G f f1 ∧ KP G [9, 36] false f f1)) 0 0 (va_A (va_pl L f) sz) := by
  refine Met.ofW (cc := cX10_readItems) (maxL := 6) (ret := (some .boolean)) (by decide) rfl ?_
  intro p e s m args below meth c s₁ B hml hv
  obtain ⟨rfl, rfl, hw⟩ := py_start hv
  have G0 : CallFix p m c cX10_readItems 6 s _ w_X10_readItems RX10 := ⟨B.exec, B.bytes, hml, findClass_of_methodNamed B.named, atoms_spec (ws := w_X10_readItems) B.pre⟩
  have hr := B.returns
  have hlk := B.notSynchronized
  have kcm1 : (-1 : Int32).toInt = -1 := rfl
  have kc0 : (0 : Int32).toInt = 0 := rfl
  have kc1 : (1 : Int32).toInt = 1 := rfl
  have kc3 : (3 : Int32).toInt = 3 := rfl
  have kc4 : (4 : Int32).toInt = 4 := rfl
  have hl := lv_entry ([.ref h, .ref t, .int 4]) (n := 6) (Nat.le_of_ble_eq_true rfl)
  rw [lg_entry_eq]
  generalize (lg_sl ([.ref h, .ref t, .int 4]) ++ List.replicate (6 - (lg_sl ([.ref h, .ref t, .int 4])).length) Slot.unset).toArray = ls at hl ⊢
  have hl : lv_has ls 6 [(0, .ref h), (1, .ref t), (2, .int 4)] := hl
  have hRP : RP E G f f := RP.refl
  have hKP : KP G [9, 36] false f f := KP.refl
  have hTB := hq0
  refine lv_iconst (v := 0) G0.1 G0.2.1 dX10_readItems_0 (by decide) ?_
  refine lv_istore_n (lv' := [(3, .int 0), (0, .ref h), (1, .ref t), (2, .int 4)]) G0.1 G0.2.1 dX10_readItems_1 rfl hl (by decide) rfl (fun ls hl => ?_)
  have lo_2 : ∀ n_2 : Nat, ∀ (v_1 : Int32) (L_j2 : List Nat) (f_j2 : py_F) (H_j2 : Heap) (locs : List Loc) (ls : Array Slot), (2147483647 - v_1.toInt).toNat = n_2 → (0 ≤ v_1.toInt ∧ v_1.toInt ≤ 4) → WF E G L_j2 f_j2 → RP E G f f_j2 → KP G [9, 36] false f f_j2 → gfn f_j2 (G.2 t 0) = gb → (tp_l f_j2 t = nb ∧ tp_a f_j2 t = pb) → (1 ≤ v_1.toInt → it0 f_j2 (G.2 h 0) = 4) → (2 ≤ v_1.toInt → it1 f_j2 (G.2 h 0) = 0) → py_W E (va_A (va_pl L f) s.heap.size) s L_j2 f_j2 H_j2 locs → lv_has ls 6 [(3, .int v_1), (0, .ref h), (1, .ref t), (2, .int 4)] → W p l e (headSpec w_X10_readItems ({ frames := 3, cells := 0, slots := 0, locals := 65 })).room s m ([.ref h, .ref t, .int 4] : List Value).toArray below meth c H_j2 locs 0 0 (MQ below (py_Qi E L f s.heap.size (fun r L1 f1 => (0 ≤ r.toInt ∧ r.toInt ≤ 1) ∧ (tp_l f1 t = nb) ∧ (pb ≤ tp_a f1 t) ∧ (r.toInt ≠ 0 → tp_a f1 t ≤ nb ∨ tp_a f1 t = pb) ∧ (0 ≤ it0 f1 (G.2 h 0) ∧ it0 f1 (G.2 h 0) ≤ 20 ∧ 0 ≤ it1 f1 (G.2 h 0) ∧ it1 f1 (G.2 h 0) ≤ 7) ∧ (ri_X (rv_is gb nb 0 pb) r.toInt (tp_a f1 t) (it0 f1 (G.2 h 0)) (it1 f1 (G.2 h 0))) ∧ WF E G L1 f1 ∧ RP E G f f1 ∧ KP G [9, 36] false f f1)) ([.ref h, .ref t, .int 4] : List Value).toArray s 0 0 (va_A (va_pl L f) s.heap.size)) (F0 m 2 ls []) := by
    intro n_2
    induction n_2 using Nat.strongRecOn with
    | _ n_2 ih_2 =>
      intro v_1 L_j2 f_j2 H_j2 locs ls hn_2 bv_1 hWF hRP hKP hTB iv0 iv1 iv2 hw hl
      refine lv_iload_n G0.1 G0.2.1 dX10_readItems_2 rfl (lv_at hl 0 rfl) ?_
      refine lv_iconst (v := 4) G0.1 G0.2.1 dX10_readItems_3 (by decide) ?_
      refine lv_icmp_ge (tgt := 26) G0.1 G0.2.1 dX10_readItems_4 (by decide) (fun c_2 => ?_) (fun c_2 => ?_)
      · skip
        have tc_2 := ti_le c_2
        refine lv_iconst (v := 0) G0.1 G0.2.1 dX10_readItems_26 (by decide) ?_
        refine lv_istore_n (lv' := [(3, .int 0), (0, .ref h), (1, .ref t), (2, .int 4)]) G0.1 G0.2.1 dX10_readItems_27 rfl hl (by decide) rfl (fun ls hl => ?_)
        refine lv_iconst (v := 0) G0.1 G0.2.1 dX10_readItems_28 (by decide) ?_
        refine lv_istore (lv' := [(4, .int 0), (3, .int 0), (0, .ref h), (1, .ref t), (2, .int 4)]) G0.1 G0.2.1 dX10_readItems_29 hl (by decide) rfl (fun ls hl => ?_)
        have lo_31 : ∀ n_31 : Nat, ∀ (v_3 : Int32) (v_4 : Int32) (L_j31 : List Nat) (f_j31 : py_F) (H_j31 : Heap) (locs : List Loc) (ls : Array Slot), (2147483647 - v_3.toInt).toNat = n_31 → (0 ≤ v_3.toInt ∧ v_3.toInt ≤ 2147483647) → WF E G L_j31 f_j31 → RP E G f f_j31 → KP G [9, 36] false f f_j31 → gfn f_j31 (G.2 t 0) = gb → (0 ≤ it0 f_j31 (G.2 h 0) ∧ it0 f_j31 (G.2 h 0) ≤ 20 ∧ 0 ≤ it1 f_j31 (G.2 h 0) ∧ it1 f_j31 (G.2 h 0) ≤ 7) → ((0 ≤ v_4.toInt ∧ v_4.toInt ≤ 15) ∧ rv_pc v_4.toInt = v_3.toInt) → ((rv_is gb nb 0 pb) = rv_it gb nb 0 v_4.toInt (it0 f_j31 (G.2 h 0)) (it1 f_j31 (G.2 h 0)) (tp_a f_j31 t)) → (tp_l f_j31 t = nb) → (pb ≤ tp_a f_j31 t ∧ (tp_a f_j31 t ≤ nb ∨ tp_a f_j31 t = pb)) → py_W E (va_A (va_pl L f) s.heap.size) s L_j31 f_j31 H_j31 locs → lv_has ls 6 [(4, .int v_3), (3, .int v_4), (0, .ref h), (1, .ref t), (2, .int 4)] → W p l e (headSpec w_X10_readItems ({ frames := 3, cells := 0, slots := 0, locals := 65 })).room s m ([.ref h, .ref t, .int 4] : List Value).toArray below meth c H_j31 locs 0 0 (MQ below (py_Qi E L f s.heap.size (fun r L1 f1 => (0 ≤ r.toInt ∧ r.toInt ≤ 1) ∧ (tp_l f1 t = nb) ∧ (pb ≤ tp_a f1 t) ∧ (r.toInt ≠ 0 → tp_a f1 t ≤ nb ∨ tp_a f1 t = pb) ∧ (0 ≤ it0 f1 (G.2 h 0) ∧ it0 f1 (G.2 h 0) ≤ 20 ∧ 0 ≤ it1 f1 (G.2 h 0) ∧ it1 f1 (G.2 h 0) ≤ 7) ∧ (ri_X (rv_is gb nb 0 pb) r.toInt (tp_a f1 t) (it0 f1 (G.2 h 0)) (it1 f1 (G.2 h 0))) ∧ WF E G L1 f1 ∧ RP E G f f1 ∧ KP G [9, 36] false f f1)) ([.ref h, .ref t, .int 4] : List Value).toArray s 0 0 (va_A (va_pl L f) s.heap.size)) (F0 m 31 ls []) := by
          intro n_31
          induction n_31 using Nat.strongRecOn with
          | _ n_31 ih_31 =>
            intro v_3 v_4 L_j31 f_j31 H_j31 locs ls hn_31 bv_3 hWF hRP hKP hTB iv0 iv1 iv2 iv3 iv4 hw hl
            refine lv_iload G0.1 G0.2.1 dX10_readItems_31 (lv_at hl 0 rfl) ?_
            refine lv_iconst (v := 4) G0.1 G0.2.1 dX10_readItems_33 (by decide) ?_
            refine lv_icmp_gt (tgt := 127) G0.1 G0.2.1 dX10_readItems_34 (by decide) (fun c_5 => ?_) (fun c_5 => ?_)
            · skip
              have tc_5 := ti_lt c_5
              refine lv_iconst (v := 1) G0.1 G0.2.1 dX10_readItems_127 (by decide) ?_
              have t_6 := wt_10 hG Th
              obtain ⟨r_7, hr_9, ty_8⟩ := wg_10 hWF Th
              have tq_10 := rd_eq hr_9
              have t_11 := wt_8 hG Tt
              obtain ⟨v_12, v_13, v_14, hr_17, b_15, b_16⟩ := wg_8 hWF Tt
              have bv_14 := wf_free v_14
              have tq_18 := tp_eq hr_17
              obtain ⟨g_19, ha_20, hi_21⟩ := wf_arr (n := 4) (lo := (-2147483648)) (hi := 2147483647) hWF t_6 (by decide) (fun _ => rfl)
              have tq_22 := it_eq ha_20
              exact py_iret G0 hr rfl hlk hw ⟨⟨by omega, by omega⟩, (by first | omega | (intro q; omega)), (by first | omega | (intro q; omega)), (by first | omega | (intro q; omega)), (by first | omega | (intro q; omega)), (by first | exact False.elim (by have hz := rv_pc_le (m := v_4.toInt) (by omega) (by omega); omega)), hWF, hRP, hKP⟩ dX10_readItems_128
            · skip
              have tc_5 := ti_nlt c_5
              refine lv_aload_n G0.1 G0.2.1 dX10_readItems_37 rfl (lv_at hl 3 rfl) ?_
              have t_23 := wt_8 hG Tt
              obtain ⟨v_24, v_25, v_26, hr_29, b_27, b_28⟩ := wg_8 hWF Tt
              have bv_26 := wf_free v_26
              have tq_30 := tp_eq hr_29
              have t_31 := wt_10 hG Th
              obtain ⟨g_32, ha_33, hi_34⟩ := wf_arr (n := 4) (lo := (-2147483648)) (hi := 2147483647) hWF t_31 (by decide) (fun _ => rfl)
              have tq_35 := it_eq ha_33
              refine py_calli hw (va_runV (As := []) (rest := []) G0 (c_X8_next l E G L_j31 f_j31 H_j31.size t gb nb (tp_a f_j31 t) hG hWF Tt (show tp_l f_j31 t = nb ∧ tp_a f_j31 t = (tp_a f_j31 t) by omega) (show 0 ≤ (tp_a f_j31 t) ∧ nb ≤ 160 by omega) hTB) (cwV 0 G0.2.2.2.2 g_X10_readItems_X8_next_39 rfl rfl rfl (by decide +kernel) ⟨(Nat.le_of_ble_eq_true rfl), (Nat.le_of_ble_eq_true rfl)⟩) (py_preV hw (C := RX8) (T := TX8) (N := 4) rfl hr_29) rfl rfl hl.1 rfl (lv_room (Nat.le_of_ble_eq_true rfl)) dX10_readItems_38 ⟨(Nat.le_of_ble_eq_true rfl), (Nat.le_of_ble_eq_true rfl)⟩) (fun r_40 L_36 f_37 H_38 locs hp_39 hw => ?_)
              obtain ⟨en_41, en_42, en_43, en_44, en_45, hWF, hq_46, kp_47⟩ := hp_39
              have hTB := (gfn_kp (kp_f kp_47 (wt_8 hG Tt) (by decide) (by decide) (fun _ => by decide))).trans hTB
              have hRP := hRP.trans hq_46
              have hKP := hKP.trans kp_47 (by decide) (by decide)
              have ha_33 := kp_at kp_47 hWF t_31 (by decide) (by decide) (by decide) ha_33
              have tq_48 := it_eq ha_33
              have br_40 := wf_free r_40
              refine lv_iload_n G0.1 G0.2.1 dX10_readItems_41 rfl (lv_at hl 4 rfl) ?_
              refine py_calli hw (va_runS (As := [.int r_40, .int 4]) (rest := []) G0 (c_X10_itemOf4 l E G L_36 f_37 H_38.size r_40 (rs_v gb nb (rs_sk gb nb (tp_a f_j31 t))) hG hWF (show r_40.toInt = (rs_v gb nb (rs_sk gb nb (tp_a f_j31 t))) by omega)) (va_cwS 2 G0.2.2.2.2 g_X10_readItems_X10_itemOf_70 rfl rfl rfl (by decide +kernel) ⟨(Nat.le_of_ble_eq_true rfl), (Nat.le_of_ble_eq_true rfl)⟩) (py_preS hw) rfl rfl hl.1 rfl (lv_room (Nat.le_of_ble_eq_true rfl)) dX10_readItems_42 ⟨(Nat.le_of_ble_eq_true rfl), (Nat.le_of_ble_eq_true rfl)⟩) (fun r_53 L_49 f_50 H_51 locs hp_52 hw => ?_)
              obtain ⟨b_56, en_54, en_55, rfl, rfl⟩ := hp_52
              refine lv_istore (lv' := [(5, .int r_53), (4, .int v_3), (3, .int v_4), (0, .ref h), (1, .ref t), (2, .int 4)]) G0.1 G0.2.1 dX10_readItems_45 hl (by decide) rfl (fun ls hl => ?_)
              refine lv_iload G0.1 G0.2.1 dX10_readItems_47 (lv_at hl 0 rfl) ?_
              refine lv_iconst (v := (-1)) G0.1 G0.2.1 dX10_readItems_49 (by decide) ?_
              refine lv_icmp_ne (tgt := 55) G0.1 G0.2.1 dX10_readItems_50 (by decide) (fun c_57 => ?_) (fun c_57 => ?_)
              · skip
                have tc_57 := ti_ne c_57
                have hk0 : 0 ≤ r_53.toInt := by omega
                refine lv_iload_n G0.1 G0.2.1 dX10_readItems_55 rfl (lv_at hl 2 rfl) ?_
                refine lv_iload G0.1 G0.2.1 dX10_readItems_56 (lv_at hl 0 rfl) ?_
                refine lv_ishr G0.1 G0.2.1 dX10_readItems_58 ?_
                refine lv_topi (fun x_58 ex_58 => ?_)
                refine lv_iconst (v := 1) G0.1 G0.2.1 dX10_readItems_59 (by decide) ?_
                refine lv_iand G0.1 G0.2.1 dX10_readItems_60 ?_
                refine lv_topi (fun x_59 ex_59 => ?_)
                have hbt : x_59.toInt = rv_hs v_4.toInt r_53.toInt := rv_bit (by omega) (by omega) (by omega) (by omega) ex_58 ex_59
                refine lv_iconst (v := 1) G0.1 G0.2.1 dX10_readItems_61 (by decide) ?_
                refine lv_icmp_ne (tgt := 67) G0.1 G0.2.1 dX10_readItems_62 (by decide) (fun c_60 => ?_) (fun c_60 => ?_)
                · skip
                  have tc_60 := ti_ne c_60
                  refine lv_iload_n G0.1 G0.2.1 dX10_readItems_67 rfl (lv_at hl 2 rfl) ?_
                  refine lv_iconst (v := 1) G0.1 G0.2.1 dX10_readItems_68 (by decide) ?_
                  refine lv_iload G0.1 G0.2.1 dX10_readItems_69 (lv_at hl 0 rfl) ?_
                  refine lv_ishl G0.1 G0.2.1 dX10_readItems_71 ?_
                  refine lv_topi (fun x_61 ex_61 => ?_)
                  first | have bx_61 : 0 ≤ x_61.toInt ∧ x_61.toInt ≤ 512 := (by rcases ti_ten r_53 (by omega) (by omega) with h | h | h | h | h | h | h | h | h | h <;> (rw [ex_61, h]; decide +kernel)) | skip
                  refine lv_ior G0.1 G0.2.1 dX10_readItems_72 ?_
                  refine lv_topi (fun x_62 ex_62 => ?_)
                  first | have bx_62 := ti_or ex_62 ⟨by omega, by omega⟩ ⟨by omega, by omega⟩ | skip
                  have hnb : rv_hs v_4.toInt r_53.toInt ≠ 1 := by omega
                  have hbo : x_62.toInt = rv_ad v_4.toInt r_53.toInt := rv_bit_on (by omega) (by omega) (by omega) (by omega) hnb ex_61 ex_62
                  have hba := rv_ad_eq (m := v_4.toInt) (k := r_53.toInt) (by omega) (by omega) (by omega) (by omega) hnb
                  rw [← hbo] at hba
                  refine lv_istore_n (lv' := [(3, .int x_62), (5, .int r_53), (4, .int v_3), (0, .ref h), (1, .ref t), (2, .int 4)]) G0.1 G0.2.1 dX10_readItems_73 rfl hl (by decide) rfl (fun ls hl => ?_)
                  refine lv_aload_n G0.1 G0.2.1 dX10_readItems_74 rfl (lv_at hl 4 rfl) ?_
                  refine lv_dup G0.1 G0.2.1 dX10_readItems_75 rfl ?_
                  obtain ⟨v_63, v_64, v_65, hr_68, b_66, b_67⟩ := wg_8 hWF Tt
                  have bv_65 := wf_free v_65
                  have tq_69 := tp_eq hr_68
                  refine py_get (C := RX8) (T := TX8) (N := 4) (k := 2) (v := .int v_64) G0 hw in_X10_readItems_X8 rfl hr_68 (by decide) (by decide +kernel) rfl dX10_readItems_76 ?_
                  refine lv_iconst (v := 1) G0.1 G0.2.1 dX10_readItems_79 (by decide) ?_
                  refine lv_iadd G0.1 G0.2.1 dX10_readItems_80 ?_
                  refine lv_topi (fun x_70 ex_70 => ?_)
                  first | have tx_70 := ti_add ex_70 (by omega) (by omega) | skip
                  refine py_put (C := RX8) (T := TX8) (N := 4) (k := 2) (v := .int x_70) (fs' := [.ref (G.2 t 0), .int v_63, .int x_70, .int v_65]) (ty0 := tyX8) G0 hw tyX8_ok nmX8 in_X10_readItems_X8 rfl hr_68 (by decide) (by decide +kernel) rfl rfl rfl rfl (Nat.le_of_ble_eq_true rfl) rfl dX10_readItems_81 (fun f_71 H_72 locs h_73 x_74 hw => ?_)
                  have hTB := (gfn_kp (kp_f (KP.refl.upd hWF x_74 Tt (Or.inl (by decide)) : KP G [9] false f_37 f_71) (wt_8 hG Tt) (by decide) (by decide) (fun _ => by decide))).trans hTB
                  have hKP := hKP.upd hWF x_74 Tt (Or.inl (by decide))
                  have hRP := hRP.trans (rp_upd hG hWF x_74 hr_68.2 h_73.2 (rp_code hG Tt (by decide)) rfl)
                  have hWF := wf_upd hWF h_73 x_74 (by rw [Tt]; exact ⟨v_63, x_70, v_65, rfl, ⟨by omega, by omega⟩, ⟨by omega, by omega⟩⟩)
                  have ha_33 := ha_33.ext x_74 (Ne.symm (py_ne_arr hr_68 ha_33))
                  have tq_75 := it_eq ha_33
                  have tq_76 := tp_eq h_73
                  refine lv_aload_n G0.1 G0.2.1 dX10_readItems_84 rfl (lv_at hl 4 rfl) ?_
                  refine lv_iconst (v := 3) G0.1 G0.2.1 dX10_readItems_85 (by decide) ?_
                  obtain ⟨st_77, z_78, T_79⟩ := hw.2.2.2.2.2.2.2.1
                  refine va_gets (C := "HeadYear$ValleyReader") G0.1 G0.2.1 z_78 hw.2.2.2.1 G0.2.2.2.1 (G0.2.2.2.2 (Cond.fieldLink RX10 74 "HeadYear$ValleyReader" "LEAST" "[I") (by decide +kernel)) (fun _ h => h) dX10_readItems_86 ?_
                  refine lv_iload_n G0.1 G0.2.1 dX10_readItems_89 rfl (lv_at hl 5 rfl) ?_
                  refine lv_iload G0.1 G0.2.1 dX10_readItems_90 (lv_at hl 1 rfl) ?_
                  refine lv_iadd G0.1 G0.2.1 dX10_readItems_92 ?_
                  refine lv_topi (fun x_80 ex_80 => ?_)
                  first | have tx_80 := ti_add ex_80 (by omega) (by omega) | skip
                  have rg_81 : vp_in x_80 8 := ti_in (by omega) (by omega)
                  refine va_ti (v := .int (st_LE.getD (x_80 : Int32).toNatClampNeg 0)) G0.1 G0.2.1 T_79 hw.2.2.2.1 rg_81 rfl dX10_readItems_93 ?_
                  refine lv_topi (fun x_82 ex_82 => ?_)
                  have bx_82 := st_LE_b rg_81 ex_82
                  have hle := tb_le0 bx_82 (k := r_53.toInt) (by omega) (by omega) (by omega)
                  clear bx_82
                  obtain ⟨st_83, z_84, T_85⟩ := hw.2.2.2.2.2.2.2.2.1
                  refine va_gets (C := "HeadYear$ValleyReader") G0.1 G0.2.1 z_84 hw.2.2.2.1 G0.2.2.2.1 (G0.2.2.2.2 (Cond.fieldLink RX10 77 "HeadYear$ValleyReader" "MOST" "[I") (by decide +kernel)) (fun _ h => h) dX10_readItems_94 ?_
                  refine lv_iload_n G0.1 G0.2.1 dX10_readItems_97 rfl (lv_at hl 5 rfl) ?_
                  refine lv_iload G0.1 G0.2.1 dX10_readItems_98 (lv_at hl 1 rfl) ?_
                  refine lv_iadd G0.1 G0.2.1 dX10_readItems_100 ?_
                  refine lv_topi (fun x_86 ex_86 => ?_)
                  first | have tx_86 := ti_add ex_86 (by omega) (by omega) | skip
                  have rg_87 : vp_in x_86 8 := ti_in (by omega) (by omega)
                  refine va_ti (v := .int (st_MO.getD (x_86 : Int32).toNatClampNeg 0)) G0.1 G0.2.1 T_85 hw.2.2.2.1 rg_87 rfl dX10_readItems_101 ?_
                  refine lv_topi (fun x_88 ex_88 => ?_)
                  have bx_88 := st_MO_b rg_87 ex_88
                  have hmo := tb_mo0 bx_88 (k := r_53.toInt) (by omega) (by omega) (by omega)
                  clear bx_88
                  refine py_calli hw (va_runV (As := [.int 3, .int x_82, .int x_88]) (rest := []) G0 (c_X8_takeNumberWithin l E G L_36 f_71 H_72.size t 3 x_82 x_88 gb nb (rs_sk gb nb (tp_a f_j31 t) + 1) 3 (rv_lo r_53.toInt) (rv_hi 0 r_53.toInt) hG hWF Tt ⟨by omega, by omega⟩ (show (3 : Int32).toInt = ((3 : Nat) : Int) by omega) (show x_82.toInt = (rv_lo r_53.toInt) ∧ x_88.toInt = (rv_hi 0 r_53.toInt) by omega) (show tp_l f_71 t = nb ∧ tp_a f_71 t = (rs_sk gb nb (tp_a f_j31 t) + 1) by omega) (show 0 ≤ (rs_sk gb nb (tp_a f_j31 t) + 1) ∧ nb ≤ 160 by omega) hTB) (cwV 3 G0.2.2.2.2 g_X10_readItems_X8_takeNumberWithin_80 rfl rfl rfl (by decide +kernel) ⟨(Nat.le_of_ble_eq_true rfl), (Nat.le_of_ble_eq_true rfl)⟩) (py_preV hw (C := RX8) (T := TX8) (N := 4) rfl h_73) rfl rfl hl.1 rfl (lv_room (Nat.le_of_ble_eq_true rfl)) dX10_readItems_102 ⟨(Nat.le_of_ble_eq_true rfl), (Nat.le_of_ble_eq_true rfl)⟩) (fun r_93 L_89 f_90 H_91 locs hp_92 hw => ?_)
                  obtain ⟨b_100, en_94, en_95, en_96, en_97, en_98, en_99, hWF, hq_101, kp_102⟩ := hp_92
                  have hTB := (gfn_kp (kp_f kp_102 (wt_8 hG Tt) (by decide) (by decide) (fun _ => by decide))).trans hTB
                  have hRP := hRP.trans hq_101
                  have hKP := hKP.trans kp_102 (by decide) (by decide)
                  have ha_33 := kp_at kp_102 hWF t_31 (by decide) (by decide) (by decide) ha_33
                  have tq_103 := it_eq ha_33
                  refine lv_if_ne (tgt := 110) G0.1 G0.2.1 dX10_readItems_105 (by decide) (fun c_104 => ?_) (fun c_104 => ?_)
                  · skip
                    have tc_104 := ti_ne c_104
                    replace en_94 := en_94 (by omega)
                    replace en_96 := en_96 (by omega)
                    replace en_97 := en_97 (by omega)
                    have hrg := rv_rng0 (k := r_53.toInt) (n := tp_n f_90 t) (by omega) (by omega) (by omega) (by omega)
                    refine lv_aload_n G0.1 G0.2.1 dX10_readItems_110 rfl (lv_at hl 3 rfl) ?_
                    obtain ⟨r_105, hr_107, ty_106⟩ := wg_10 hWF Th
                    have tq_108 := rd_eq hr_107
                    refine py_get (C := RX10) (T := TX10) (N := 2) (k := 0) (v := .ref (G.2 h 0)) G0 hw in_X10_readItems_X10 rfl hr_107 (by decide) (by decide +kernel) rfl dX10_readItems_111 ?_
                    refine lv_iload G0.1 G0.2.1 dX10_readItems_114 (lv_at hl 1 rfl) ?_
                    refine lv_aload_n G0.1 G0.2.1 dX10_readItems_116 rfl (lv_at hl 4 rfl) ?_
                    obtain ⟨v_109, v_110, v_111, hr_114, b_112, b_113⟩ := wg_8 hWF Tt
                    have bv_111 := wf_free v_111
                    have tq_115 := tp_eq hr_114
                    refine py_get (C := RX8) (T := TX8) (N := 4) (k := 3) (v := .int v_111) G0 hw in_X10_readItems_X8 rfl hr_114 (by decide) (by decide +kernel) rfl dX10_readItems_117 ?_
                    have rg_116 : vp_in r_53 4 := ti_in (by omega) (by omega)
                    refine py_iast G0 hw ha_33 rg_116 dX10_readItems_120 (fun f_117 H_118 locs h_119 x_120 hw => ?_)
                    have hTB := (gfn_kp (kp_f (KP.refl.upd hWF x_120 t_31 (Or.inl (by decide)) : KP G [36] false f_90 f_117) (wt_8 hG Tt) (by decide) (by decide) (fun _ => by decide))).trans hTB
                    have hKP := hKP.upd hWF x_120 t_31 (Or.inl (by decide))
                    have hRP := hRP.trans (rp_upd hG hWF x_120 ha_33.2 h_119.2 (rp_code hG t_31 (by decide)) rfl)
                    have hi_121 := wf_inu (k := (r_53 : Int32).toNatClampNeg) (x := v_111) hi_34 (wf_free v_111).1 (wf_free v_111).2
                    have hWF := wf_upd hWF h_119 x_120 (by rw [t_31]; exact ⟨_, rfl, hi_121⟩)
                    have hr_107 := hr_107.ext x_120 (py_ne_arr hr_107 ha_33)
                    have tq_122 := rd_eq hr_107
                    have hr_114 := hr_114.ext x_120 (py_ne_arr hr_114 ha_33)
                    have tq_123 := tp_eq hr_114
                    have tu_124 := it_up (g := g_32) (v := v_111) rg_116
                    have tq_125 := it_eq h_119
                    obtain ⟨x_126, ex_126⟩ : ∃ y : Int32, y = v_3 + 1 := ⟨_, rfl⟩
                    first | have tx_126 := ti_add ex_126 (by omega) (by omega) | skip
                    refine lv_iinc (v := x_126) (lv' := [(4, .int x_126), (3, .int x_62), (5, .int r_53), (0, .ref h), (1, .ref t), (2, .int 4)]) G0.1 G0.2.1 dX10_readItems_121 hl (k := 2) rfl (show _ + (1 : Int32) = _ from ex_126.symm) (by decide) rfl (fun ls hl => ?_)
                    refine lv_goto (tgt := 31) G0.1 G0.2.1 dX10_readItems_124 (by decide) ?_
                    exact ih_31 ((2147483647 - x_126.toInt).toNat) (by omega) x_126 x_62 L_89 f_117 _ _ ls rfl ⟨by omega, by omega⟩ hWF hRP hKP hTB (by first | omega | (intros; omega)) (by omega) (rv_it_g iv2 (k := r_53.toInt) (by omega) (by omega) (by omega) rfl rfl rfl (by omega) (by omega) (by omega) hbo rfl (by omega) (by omega) (by omega)) (by first | omega | (intros; omega)) (by first | omega | (intros; omega)) hw (lv_sub hl [0, 1, 3, 4, 5] rfl)
                  · skip
                    have tc_104 := ti_eq c_104
                    clear en_94
                    clear en_96
                    clear en_97
                    refine lv_iconst (v := 0) G0.1 G0.2.1 dX10_readItems_108 (by decide) ?_
                    obtain ⟨r_127, hr_129, ty_128⟩ := wg_10 hWF Th
                    have tq_130 := rd_eq hr_129
                    obtain ⟨v_131, v_132, v_133, hr_136, b_134, b_135⟩ := wg_8 hWF Tt
                    have bv_133 := wf_free v_133
                    have tq_137 := tp_eq hr_136
                    exact py_iret G0 hr rfl hlk hw ⟨⟨by omega, by omega⟩, (by first | omega | (intro q; omega)), (by first | omega | (intro q; omega)), (by first | omega | (intro q; omega)), (by first | omega | (intro q; omega)), (by first | exact ri_f (rv_it_f iv2 (k := r_53.toInt) (by omega) (by omega) (by omega) rfl rfl rfl (by omega)) (by omega) (by omega) (by omega) (by omega) (by omega)), hWF, hRP, hKP⟩ dX10_readItems_109
                · skip
                  have tc_60 := ti_eq c_60
                  refine lv_iconst (v := 0) G0.1 G0.2.1 dX10_readItems_65 (by decide) ?_
                  obtain ⟨r_138, hr_140, ty_139⟩ := wg_10 hWF Th
                  have tq_141 := rd_eq hr_140
                  obtain ⟨v_142, v_143, v_144, hr_147, b_145, b_146⟩ := wg_8 hWF Tt
                  have bv_144 := wf_free v_144
                  have tq_148 := tp_eq hr_147
                  exact py_iret G0 hr rfl hlk hw ⟨⟨by omega, by omega⟩, (by first | omega | (intro q; omega)), (by first | omega | (intro q; omega)), (by first | omega | (intro q; omega)), (by first | omega | (intro q; omega)), (by first | exact ri_r (rv_it_r iv2 (k := r_53.toInt) (by omega) (by omega) (by omega)) (by omega) (by omega) (by omega) (by omega)), hWF, hRP, hKP⟩ dX10_readItems_66
              · skip
                have tc_57 := ti_eq c_57
                refine lv_iconst (v := 1) G0.1 G0.2.1 dX10_readItems_53 (by decide) ?_
                obtain ⟨r_149, hr_151, ty_150⟩ := wg_10 hWF Th
                have tq_152 := rd_eq hr_151
                obtain ⟨v_153, v_154, v_155, hr_158, b_156, b_157⟩ := wg_8 hWF Tt
                have bv_155 := wf_free v_155
                have tq_159 := tp_eq hr_158
                exact py_iret G0 hr rfl hlk hw ⟨⟨by omega, by omega⟩, (by first | omega | (intro q; omega)), (by first | omega | (intro q; omega)), (by first | omega | (intro q; omega)), (by first | omega | (intro q; omega)), (by first | exact ri_e (rv_it_e iv2 (by omega)) (by omega) (by omega) (by omega) (by omega)), hWF, hRP, hKP⟩ dX10_readItems_54
        exact lo_31 _ 0 0 L_j2 f_j2 _ _ ls rfl ⟨by omega, by omega⟩ hWF hRP hKP hTB (by first | omega | (intros; omega)) (by decide) (by rw [show tp_a f_j2 t = pb by omega]; exact rv_is_0e (by omega) (by omega) (by omega)) (by first | omega | (intros; omega)) (by first | omega | (intros; omega)) hw (lv_sub hl [0, 1, 2, 3, 4] rfl)
      · skip
        have tc_2 := ti_nle c_2
        have t_160 := wt_8 hG Tt
        obtain ⟨v_161, v_162, v_163, hr_166, b_164, b_165⟩ := wg_8 hWF Tt
        have bv_163 := wf_free v_163
        have tq_167 := tp_eq hr_166
        refine lv_aload_n G0.1 G0.2.1 dX10_readItems_7 rfl (lv_at hl 1 rfl) ?_
        have t_168 := wt_10 hG Th
        obtain ⟨r_169, hr_171, ty_170⟩ := wg_10 hWF Th
        have tq_172 := rd_eq hr_171
        refine py_get (C := RX10) (T := TX10) (N := 2) (k := 0) (v := .ref (G.2 h 0)) G0 hw in_X10_readItems_X10 rfl hr_171 (by decide) (by decide +kernel) rfl dX10_readItems_8 ?_
        refine lv_iload_n G0.1 G0.2.1 dX10_readItems_11 rfl (lv_at hl 0 rfl) ?_
        obtain ⟨st_173, z_174, T_175⟩ := hw.2.2.2.2.2.2.2.2.2.1
        refine va_gets (C := "HeadYear$ValleyReader") G0.1 G0.2.1 z_174 hw.2.2.2.1 G0.2.2.2.1 (G0.2.2.2.2 (Cond.fieldLink RX10 67 "HeadYear$ValleyReader" "USUAL" "[I") (by decide +kernel)) (fun _ h => h) dX10_readItems_12 ?_
        refine lv_iload_n G0.1 G0.2.1 dX10_readItems_15 rfl (lv_at hl 3 rfl) ?_
        refine lv_iload_n G0.1 G0.2.1 dX10_readItems_16 rfl (lv_at hl 0 rfl) ?_
        refine lv_iadd G0.1 G0.2.1 dX10_readItems_17 ?_
        refine lv_topi (fun x_176 ex_176 => ?_)
        first | have tx_176 := ti_add ex_176 (by omega) (by omega) | skip
        have rg_177 : vp_in x_176 8 := ti_in (by omega) (by omega)
        refine va_ti (v := .int (st_US.getD (x_176 : Int32).toNatClampNeg 0)) G0.1 G0.2.1 T_175 hw.2.2.2.1 rg_177 rfl dX10_readItems_18 ?_
        refine lv_topi (fun x_178 ex_178 => ?_)
        have bx_178 := st_US_b rg_177 ex_178
        have hus := tb_us0 bx_178 (k := v_1.toInt) (by omega) (by omega) (by omega)
        clear bx_178
        obtain ⟨g_179, ha_180, hi_181⟩ := wf_arr (n := 4) (lo := (-2147483648)) (hi := 2147483647) hWF t_168 (by decide) (fun _ => rfl)
        have tq_182 := it_eq ha_180
        have rg_183 : vp_in v_1 4 := ti_in (by omega) (by omega)
        refine py_iast G0 hw ha_180 rg_183 dX10_readItems_19 (fun f_184 H_185 locs h_186 x_187 hw => ?_)
        have hTB := (gfn_kp (kp_f (KP.refl.upd hWF x_187 t_168 (Or.inl (by decide)) : KP G [36] false f_j2 f_184) (wt_8 hG Tt) (by decide) (by decide) (fun _ => by decide))).trans hTB
        have hKP := hKP.upd hWF x_187 t_168 (Or.inl (by decide))
        have hRP := hRP.trans (rp_upd hG hWF x_187 ha_180.2 h_186.2 (rp_code hG t_168 (by decide)) rfl)
        have hi_188 := wf_inu (k := (v_1 : Int32).toNatClampNeg) (x := x_178) hi_181 (wf_free x_178).1 (wf_free x_178).2
        have hWF := wf_upd hWF h_186 x_187 (by rw [t_168]; exact ⟨_, rfl, hi_188⟩)
        have hr_166 := hr_166.ext x_187 (py_ne_arr hr_166 ha_180)
        have tq_189 := tp_eq hr_166
        have hr_171 := hr_171.ext x_187 (py_ne_arr hr_171 ha_180)
        have tq_190 := rd_eq hr_171
        have tu_191 := it_up (g := g_179) (v := x_178) rg_183
        have tq_192 := it_eq h_186
        obtain ⟨x_193, ex_193⟩ : ∃ y : Int32, y = v_1 + 1 := ⟨_, rfl⟩
        first | have tx_193 := ti_add ex_193 (by omega) (by omega) | skip
        refine lv_iinc (v := x_193) (lv' := [(3, .int x_193), (0, .ref h), (1, .ref t), (2, .int 4)]) G0.1 G0.2.1 dX10_readItems_20 hl (k := 0) rfl (show _ + (1 : Int32) = _ from ex_193.symm) (by decide) rfl (fun ls hl => ?_)
        refine lv_goto (tgt := 2) G0.1 G0.2.1 dX10_readItems_23 (by decide) ?_
        exact ih_2 ((2147483647 - x_193.toInt).toNat) (by omega) x_193 L_j2 f_184 _ _ ls rfl ⟨by omega, by omega⟩ hWF hRP hKP hTB (by first | omega | (intros; omega)) (by first | omega | (intros; omega)) (by first | omega | (intros; omega)) hw (lv_sub hl [0, 1, 2, 3] rfl)
  exact lo_2 _ 0 L f _ _ ls rfl ⟨by omega, by omega⟩ hWF hRP hKP hTB (by first | omega | (intros; omega)) (by first | omega | (intros; omega)) (by first | omega | (intros; omega)) hw (lv_sub hl [0, 1, 2, 3] rfl)
