set_option maxHeartbeats 4000000 in
set_option maxRecDepth 100000 in
theorem lc_17 {p : Program} {e : Env} {s : State} {m : MethodId} {below : List Frame} {meth : Method} {c : Code} (l : Launch) (hst : l.stackTraces = false) {b N : Nat} {xs : Nat → Int32} (C0 : lw_At p s m meth c b N xs) (G0 : CallFix p m c cL_law 7 s #[Value.ref b] w_L_law RL) (hN : N ≤ 3072) {E : py_E} {L : List Nat} {f : py_F} {H : Heap} {locs : List Loc} (hw : py_W E (fun q : Nat => s.heap.size ≤ q) s L f H locs) {x u o : Nat} (hLW : LW E L f x u o) {i : Int32} (hi0 : 0 ≤ i.toInt) (hiN : i.toInt + 6 ≤ N) {C S : Nat} (hC : C + 8 ≤ 601024) (hS : S + 256 ≤ 7293034) {ls : Array Slot} (hl : lv_has ls 7 [(4, .int i), (3, .ref o), (2, .ref u), (1, .ref x), (0, .ref b)]) (kk : ∀ (L1 : List Nat) (f1 : py_F) (H1 : Heap) (locs1 : List Loc) (ls1 : Array Slot), LW E L1 f1 x u o → py_W E (fun q : Nat => s.heap.size ≤ q) s L1 f1 H1 locs1 → lv_has ls1 7 [(4, .int i), (3, .ref o), (2, .ref u), (1, .ref x), (0, .ref b)] → W p l e room_1 s m #[Value.ref b] below meth c H1 locs1 (C + 8) (S + 256) (lw_Z below #[Value.ref b] s) (F0 m 1321 ls1 [])) : W p l e room_1 s m #[Value.ref b] below meth c H locs (C) (S) (lw_Z below #[Value.ref b] s) (F0 m 752 ls []) := by
  obtain ⟨hx, hb, hr, hml, hown, hts, hX, hbl, hlocks, hgv⟩ := id C0
  have hbA : ¬ (fun q : Nat => s.heap.size ≤ q) b := Nat.not_le.mpr hbl
  have kcm1 : (-1 : Int32).toInt = -1 := rfl
  have kc0 : (0 : Int32).toInt = 0 := rfl
  have kc1 : (1 : Int32).toInt = 1 := rfl
  obtain ⟨G, gb, nb, hG, hWF, Tx, Tu, To, hGI, hGM, hTI, hTY⟩ := hLW
  refine lv_aload_n G0.1 G0.2.1 dL_law_752 rfl (lv_at hl 3 rfl) ?_
  refine lv_aload_n G0.1 G0.2.1 dL_law_753 rfl (lv_at hl 4 rfl) ?_
  refine lv_iload G0.1 G0.2.1 dL_law_754 (lv_at hl 0 rfl) ?_
  refine lv_iconst (v := 1) G0.1 G0.2.1 dL_law_756 (by decide) ?_
  refine lv_iadd G0.1 G0.2.1 dL_law_757 ?_
  refine lv_topi (fun x_1 ex_1 => ?_)
  first | have tx_1 := ti_add ex_1 (by omega) (by omega) | skip
  have rg_2 : vp_in x_1 N := ti_in (by omega) (by omega)
  refine va_sld G0.1 G0.2.1 hX hbl hbA hw.2.2.2.1 rg_2 dL_law_758 ?_
  refine lv_topi (fun x_3 ex_3 => ?_)
  obtain ⟨v_10, v_11, v_12, hr_9, -⟩ := wg_11 hWF Tx
  have ht10 := fo_ty hWF (wt_11 hG Tx).2.2.2.2.2.1
  refine py_calli hw (va_runV (As := [.int x_3]) (rest := []) G0 (c_X11_needs l E G L f H.size x x_3 hG hWF Tx) (cwV 1 G0.2.2.2.2 g_L_law_X11_needs_98 rfl rfl rfl (by decide +kernel) ⟨(Nat.le_of_ble_eq_true rfl), (Nat.le_of_ble_eq_true rfl)⟩) (py_preV hw (C := RX11) (T := TX11) (N := 16) rfl hr_9) rfl rfl hl.1 rfl (lv_room (Nat.le_of_ble_eq_true rfl)) dL_law_759 ⟨rm_c (by omega), rm_s (by omega)⟩) (fun r_8 L_4 f_5 H_6 locs hp_7 hw => ?_)
  obtain ⟨rfl, rfl⟩ := hp_7
  refine lv_pop G0.1 G0.2.1 dL_law_762 rfl ?_
  refine lv_aload_n G0.1 G0.2.1 dL_law_763 rfl (lv_at hl 2 rfl) ?_
  refine lv_aload_n G0.1 G0.2.1 dL_law_764 rfl (lv_at hl 4 rfl) ?_
  refine lv_iload G0.1 G0.2.1 dL_law_765 (lv_at hl 0 rfl) ?_
  refine lv_iconst (v := 1) G0.1 G0.2.1 dL_law_767 (by decide) ?_
  refine lv_iadd G0.1 G0.2.1 dL_law_768 ?_
  refine lv_topi (fun x_13 ex_13 => ?_)
  first | have tx_13 := ti_add ex_13 (by omega) (by omega) | skip
  have rg_14 : vp_in x_13 N := ti_in (by omega) (by omega)
  refine va_sld G0.1 G0.2.1 hX hbl hbA hw.2.2.2.1 rg_14 dL_law_769 ?_
  refine lv_topi (fun x_15 ex_15 => ?_)
  have Qx_15 : x_15 = x_3 := by rw [ex_15, ex_3, ex_13, ex_1]
  have qx_15 : x_15.toInt = x_3.toInt := by rw [Qx_15]
  obtain ⟨v_22, v_23, v_24, v_25, v_26, v_27, v_28, v_29, v_30, v_31, v_32, v_33, v_34, v_35, v_36, v_37, v_38, v_39, v_40, v_41, v_42, v_43, hr_21, -⟩ := wg_12 hWF Tu
  have ht10 := fo_ty hWF (wt_11 hG Tx).2.2.2.2.2.1
  refine py_calli hw (va_runV (As := [.int x_15]) (rest := []) G0 (c_X12_needs l E G L f H_6.size u x_15 hG hWF Tu) (cwV 1 G0.2.2.2.2 g_L_law_X12_needs_101 rfl rfl rfl (by decide +kernel) ⟨(Nat.le_of_ble_eq_true rfl), (Nat.le_of_ble_eq_true rfl)⟩) (py_preV hw (C := RX12) (T := TX12) (N := 54) rfl hr_21) rfl rfl hl.1 rfl (lv_room (Nat.le_of_ble_eq_true rfl)) dL_law_770 ⟨rm_c (by omega), rm_s (by omega)⟩) (fun r_20 L_16 f_17 H_18 locs hp_19 hw => ?_)
  obtain ⟨hWF, kp_44, fkr_20⟩ := hp_19
  have hGI := hGI.kp hG Tx ht10 (rp_kp hG kp_44 (by decide) (by decide)) kp_44 (by decide)
  have hGM := hGM.kps hG Tu kp_44 (LK.of (by decide)) (by decide)
  have hTY := hTY.rf hG Tx ht10 kp_44 fkr_20 (by decide) (by decide)
  have hTI := hTI.rf hG Tx Tu kp_44 fkr_20 (by decide) (by decide)
  refine lv_pop G0.1 G0.2.1 dL_law_773 rfl ?_
  refine lv_goto (tgt := 1321) G0.1 G0.2.1 dL_law_774 (by decide) ?_
  refine W.widen (k := C + 8) (n := S + 256) (by omega) (by omega) ?_
  exact kk _ _ _ _ ls ⟨G, gb, nb, hG, hWF, Tx, Tu, To, hGI, hGM, hTI, hTY⟩ hw (lv_sub hl [0, 1, 2, 3, 4] rfl)
set_option maxHeartbeats 4000000 in
set_option maxRecDepth 100000 in
theorem lc_18 {p : Program} {e : Env} {s : State} {m : MethodId} {below : List Frame} {meth : Method} {c : Code} (l : Launch) (hst : l.stackTraces = false) {b N : Nat} {xs : Nat → Int32} (C0 : lw_At p s m meth c b N xs) (G0 : CallFix p m c cL_law 7 s #[Value.ref b] w_L_law RL) (hN : N ≤ 3072) {E : py_E} {L : List Nat} {f : py_F} {H : Heap} {locs : List Loc} (hw : py_W E (fun q : Nat => s.heap.size ≤ q) s L f H locs) {x u o : Nat} (hLW : LW E L f x u o) {i : Int32} (hi0 : 0 ≤ i.toInt) (hiN : i.toInt + 6 ≤ N) {C S : Nat} (hC : C + 8 ≤ 601024) (hS : S + 256 ≤ 7293034) {ls : Array Slot} (hl : lv_has ls 7 [(4, .int i), (3, .ref o), (2, .ref u), (1, .ref x), (0, .ref b)]) (kk : ∀ (L1 : List Nat) (f1 : py_F) (H1 : Heap) (locs1 : List Loc) (ls1 : Array Slot), LW E L1 f1 x u o → py_W E (fun q : Nat => s.heap.size ≤ q) s L1 f1 H1 locs1 → lv_has ls1 7 [(4, .int i), (3, .ref o), (2, .ref u), (1, .ref x), (0, .ref b)] → W p l e room_1 s m #[Value.ref b] below meth c H1 locs1 (C + 8) (S + 256) (lw_Z below #[Value.ref b] s) (F0 m 1321 ls1 [])) : W p l e room_1 s m #[Value.ref b] below meth c H locs (C) (S) (lw_Z below #[Value.ref b] s) (F0 m 777 ls []) := by
  obtain ⟨hx, hb, hr, hml, hown, hts, hX, hbl, hlocks, hgv⟩ := id C0
  have hbA : ¬ (fun q : Nat => s.heap.size ≤ q) b := Nat.not_le.mpr hbl
  have kcm1 : (-1 : Int32).toInt = -1 := rfl
  have kc0 : (0 : Int32).toInt = 0 := rfl
  have kc1 : (1 : Int32).toInt = 1 := rfl
  have kc2 : (2 : Int32).toInt = 2 := rfl
  have kc3 : (3 : Int32).toInt = 3 := rfl
  obtain ⟨G, gb, nb, hG, hWF, Tx, Tu, To, hGI, hGM, hTI, hTY⟩ := hLW
  refine lv_aload_n G0.1 G0.2.1 dL_law_777 rfl (lv_at hl 3 rfl) ?_
  refine lv_aload_n G0.1 G0.2.1 dL_law_778 rfl (lv_at hl 4 rfl) ?_
  refine lv_iload G0.1 G0.2.1 dL_law_779 (lv_at hl 0 rfl) ?_
  refine lv_iconst (v := 1) G0.1 G0.2.1 dL_law_781 (by decide) ?_
  refine lv_iadd G0.1 G0.2.1 dL_law_782 ?_
  refine lv_topi (fun x_1 ex_1 => ?_)
  first | have tx_1 := ti_add ex_1 (by omega) (by omega) | skip
  have rg_2 : vp_in x_1 N := ti_in (by omega) (by omega)
  refine va_sld G0.1 G0.2.1 hX hbl hbA hw.2.2.2.1 rg_2 dL_law_783 ?_
  refine lv_topi (fun x_3 ex_3 => ?_)
  refine lv_aload_n G0.1 G0.2.1 dL_law_784 rfl (lv_at hl 4 rfl) ?_
  refine lv_iload G0.1 G0.2.1 dL_law_785 (lv_at hl 0 rfl) ?_
  refine lv_iconst (v := 2) G0.1 G0.2.1 dL_law_787 (by decide) ?_
  refine lv_iadd G0.1 G0.2.1 dL_law_788 ?_
  refine lv_topi (fun x_4 ex_4 => ?_)
  first | have tx_4 := ti_add ex_4 (by omega) (by omega) | skip
  have rg_5 : vp_in x_4 N := ti_in (by omega) (by omega)
  refine va_sld G0.1 G0.2.1 hX hbl hbA hw.2.2.2.1 rg_5 dL_law_789 ?_
  refine lv_topi (fun x_6 ex_6 => ?_)
  refine lv_aload_n G0.1 G0.2.1 dL_law_790 rfl (lv_at hl 4 rfl) ?_
  refine lv_iload G0.1 G0.2.1 dL_law_791 (lv_at hl 0 rfl) ?_
  refine lv_iconst (v := 3) G0.1 G0.2.1 dL_law_793 (by decide) ?_
  refine lv_iadd G0.1 G0.2.1 dL_law_794 ?_
  refine lv_topi (fun x_7 ex_7 => ?_)
  first | have tx_7 := ti_add ex_7 (by omega) (by omega) | skip
  have rg_8 : vp_in x_7 N := ti_in (by omega) (by omega)
  refine va_sld G0.1 G0.2.1 hX hbl hbA hw.2.2.2.1 rg_8 dL_law_795 ?_
  refine lv_topi (fun x_9 ex_9 => ?_)
  obtain ⟨v_16, v_17, v_18, hr_15, -⟩ := wg_11 hWF Tx
  have ht10 := fo_ty hWF (wt_11 hG Tx).2.2.2.2.2.1
  refine py_calli hw (va_runV (As := [.int x_3, .int x_6, .int x_9]) (rest := []) G0 (c_X11_odds l E G L f H.size x x_3 x_6 x_9 hG hWF Tx hGI) (cwV 3 G0.2.2.2.2 g_L_law_X11_odds_102 rfl rfl rfl (by decide +kernel) ⟨(Nat.le_of_ble_eq_true rfl), (Nat.le_of_ble_eq_true rfl)⟩) (py_preV hw (C := RX11) (T := TX11) (N := 16) rfl hr_15) rfl rfl hl.1 rfl (lv_room (Nat.le_of_ble_eq_true rfl)) dL_law_796 ⟨rm_c (by omega), rm_s (by omega)⟩) (fun r_14 L_10 f_11 H_12 locs hp_13 hw => ?_)
  obtain ⟨hWF, kp_19, hGI⟩ := hp_13
  have hGM := hGM.kps hG Tu kp_19 (LK.of (by decide)) (by decide)
  have hTY := hTY.cl hG Tx Tu kp_19 (by decide) (cls_kp hG Tx ht10 kp_19 (by decide)) (hy_same (kp_f kp_19 Tx (by decide) (by decide) (fun _ => by decide))).2
  have hTI := hTI.clx hG Tx Tu kp_19 (by decide)
  refine lv_pop G0.1 G0.2.1 dL_law_799 rfl ?_
  refine lv_aload_n G0.1 G0.2.1 dL_law_800 rfl (lv_at hl 2 rfl) ?_
  refine lv_aload_n G0.1 G0.2.1 dL_law_801 rfl (lv_at hl 4 rfl) ?_
  refine lv_iload G0.1 G0.2.1 dL_law_802 (lv_at hl 0 rfl) ?_
  refine lv_iconst (v := 1) G0.1 G0.2.1 dL_law_804 (by decide) ?_
  refine lv_iadd G0.1 G0.2.1 dL_law_805 ?_
  refine lv_topi (fun x_20 ex_20 => ?_)
  first | have tx_20 := ti_add ex_20 (by omega) (by omega) | skip
  have rg_21 : vp_in x_20 N := ti_in (by omega) (by omega)
  refine va_sld G0.1 G0.2.1 hX hbl hbA hw.2.2.2.1 rg_21 dL_law_806 ?_
  refine lv_topi (fun x_22 ex_22 => ?_)
  have Qx_22 : x_22 = x_3 := by rw [ex_22, ex_3, ex_20, ex_1]
  have qx_22 : x_22.toInt = x_3.toInt := by rw [Qx_22]
  refine lv_aload_n G0.1 G0.2.1 dL_law_807 rfl (lv_at hl 4 rfl) ?_
  refine lv_iload G0.1 G0.2.1 dL_law_808 (lv_at hl 0 rfl) ?_
  refine lv_iconst (v := 2) G0.1 G0.2.1 dL_law_810 (by decide) ?_
  refine lv_iadd G0.1 G0.2.1 dL_law_811 ?_
  refine lv_topi (fun x_23 ex_23 => ?_)
  first | have tx_23 := ti_add ex_23 (by omega) (by omega) | skip
  have rg_24 : vp_in x_23 N := ti_in (by omega) (by omega)
  refine va_sld G0.1 G0.2.1 hX hbl hbA hw.2.2.2.1 rg_24 dL_law_812 ?_
  refine lv_topi (fun x_25 ex_25 => ?_)
  have Qx_25 : x_25 = x_6 := by rw [ex_25, ex_6, ex_23, ex_4]
  have qx_25 : x_25.toInt = x_6.toInt := by rw [Qx_25]
  refine lv_aload_n G0.1 G0.2.1 dL_law_813 rfl (lv_at hl 4 rfl) ?_
  refine lv_iload G0.1 G0.2.1 dL_law_814 (lv_at hl 0 rfl) ?_
  refine lv_iconst (v := 3) G0.1 G0.2.1 dL_law_816 (by decide) ?_
  refine lv_iadd G0.1 G0.2.1 dL_law_817 ?_
  refine lv_topi (fun x_26 ex_26 => ?_)
  first | have tx_26 := ti_add ex_26 (by omega) (by omega) | skip
  have rg_27 : vp_in x_26 N := ti_in (by omega) (by omega)
  refine va_sld G0.1 G0.2.1 hX hbl hbA hw.2.2.2.1 rg_27 dL_law_818 ?_
  refine lv_topi (fun x_28 ex_28 => ?_)
  have Qx_28 : x_28 = x_9 := by rw [ex_28, ex_9, ex_26, ex_7]
  have qx_28 : x_28.toInt = x_9.toInt := by rw [Qx_28]
  obtain ⟨v_35, v_36, v_37, v_38, v_39, v_40, v_41, v_42, v_43, v_44, v_45, v_46, v_47, v_48, v_49, v_50, v_51, v_52, v_53, v_54, v_55, v_56, hr_34, -⟩ := wg_12 hWF Tu
  have ht10 := fo_ty hWF (wt_11 hG Tx).2.2.2.2.2.1
  refine py_calli hw (va_runV (As := [.int x_22, .int x_25, .int x_28]) (rest := []) G0 (c_X12_odds l E G L_10 f_11 H_12.size u x_22 x_25 x_28 hG hWF Tu hGM) (cwV 3 G0.2.2.2.2 g_L_law_X12_odds_106 rfl rfl rfl (by decide +kernel) ⟨(Nat.le_of_ble_eq_true rfl), (Nat.le_of_ble_eq_true rfl)⟩) (py_preV hw (C := RX12) (T := TX12) (N := 54) rfl hr_34) rfl rfl hl.1 rfl (lv_room (Nat.le_of_ble_eq_true rfl)) dL_law_819 ⟨rm_c (by omega), rm_s (by omega)⟩) (fun r_33 L_29 f_30 H_31 locs hp_32 hw => ?_)
  obtain ⟨hWF, kp_57, fkr_33⟩ := hp_32
  have hGI := hGI.kp hG Tx ht10 (rp_kp hG kp_57 (by decide) (by decide)) kp_57 (by decide)
  have hGM := hGM.kp hG Tu kp_57 fkr_33 (LK.of (by decide)) (by decide)
  have hTY := hTY.rf hG Tx ht10 kp_57 fkr_33 (by decide) (by decide)
  have hTI := hTI.rf hG Tx Tu kp_57 fkr_33 (by decide) (by decide)
  refine lv_pop G0.1 G0.2.1 dL_law_822 rfl ?_
  refine lv_goto (tgt := 1321) G0.1 G0.2.1 dL_law_823 (by decide) ?_
  refine W.widen (k := C + 8) (n := S + 256) (by omega) (by omega) ?_
  exact kk _ _ _ _ ls ⟨G, gb, nb, hG, hWF, Tx, Tu, To, hGI, hGM, hTI, hTY⟩ hw (lv_sub hl [0, 1, 2, 3, 4] rfl)
set_option maxHeartbeats 4000000 in
set_option maxRecDepth 100000 in
theorem lc_19 {p : Program} {e : Env} {s : State} {m : MethodId} {below : List Frame} {meth : Method} {c : Code} (l : Launch) (hst : l.stackTraces = false) {b N : Nat} {xs : Nat → Int32} (C0 : lw_At p s m meth c b N xs) (G0 : CallFix p m c cL_law 7 s #[Value.ref b] w_L_law RL) (hN : N ≤ 3072) {E : py_E} {L : List Nat} {f : py_F} {H : Heap} {locs : List Loc} (hw : py_W E (fun q : Nat => s.heap.size ≤ q) s L f H locs) {x u o : Nat} (hLW : LW E L f x u o) {i : Int32} (hi0 : 0 ≤ i.toInt) (hiN : i.toInt + 6 ≤ N) {C S : Nat} (hC : C + 8 ≤ 601024) (hS : S + 256 ≤ 7293034) {ls : Array Slot} (hl : lv_has ls 7 [(4, .int i), (3, .ref o), (2, .ref u), (1, .ref x), (0, .ref b)]) (kk : ∀ (L1 : List Nat) (f1 : py_F) (H1 : Heap) (locs1 : List Loc) (ls1 : Array Slot), LW E L1 f1 x u o → py_W E (fun q : Nat => s.heap.size ≤ q) s L1 f1 H1 locs1 → lv_has ls1 7 [(4, .int i), (3, .ref o), (2, .ref u), (1, .ref x), (0, .ref b)] → W p l e room_1 s m #[Value.ref b] below meth c H1 locs1 (C + 8) (S + 256) (lw_Z below #[Value.ref b] s) (F0 m 1321 ls1 [])) : W p l e room_1 s m #[Value.ref b] below meth c H locs (C) (S) (lw_Z below #[Value.ref b] s) (F0 m 826 ls []) := by
  obtain ⟨hx, hb, hr, hml, hown, hts, hX, hbl, hlocks, hgv⟩ := id C0
  have hbA : ¬ (fun q : Nat => s.heap.size ≤ q) b := Nat.not_le.mpr hbl
  have kcm1 : (-1 : Int32).toInt = -1 := rfl
  have kc0 : (0 : Int32).toInt = 0 := rfl
  have kc1 : (1 : Int32).toInt = 1 := rfl
  have kc2 : (2 : Int32).toInt = 2 := rfl
  have kc3 : (3 : Int32).toInt = 3 := rfl
  have kc4 : (4 : Int32).toInt = 4 := rfl
  obtain ⟨G, gb, nb, hG, hWF, Tx, Tu, To, hGI, hGM, hTI, hTY⟩ := hLW
  refine lv_aload_n G0.1 G0.2.1 dL_law_826 rfl (lv_at hl 3 rfl) ?_
  refine lv_aload_n G0.1 G0.2.1 dL_law_827 rfl (lv_at hl 4 rfl) ?_
  refine lv_iload G0.1 G0.2.1 dL_law_828 (lv_at hl 0 rfl) ?_
  refine lv_iconst (v := 1) G0.1 G0.2.1 dL_law_830 (by decide) ?_
  refine lv_iadd G0.1 G0.2.1 dL_law_831 ?_
  refine lv_topi (fun x_1 ex_1 => ?_)
  first | have tx_1 := ti_add ex_1 (by omega) (by omega) | skip
  have rg_2 : vp_in x_1 N := ti_in (by omega) (by omega)
  refine va_sld G0.1 G0.2.1 hX hbl hbA hw.2.2.2.1 rg_2 dL_law_832 ?_
  refine lv_topi (fun x_3 ex_3 => ?_)
  refine lv_aload_n G0.1 G0.2.1 dL_law_833 rfl (lv_at hl 4 rfl) ?_
  refine lv_iload G0.1 G0.2.1 dL_law_834 (lv_at hl 0 rfl) ?_
  refine lv_iconst (v := 2) G0.1 G0.2.1 dL_law_836 (by decide) ?_
  refine lv_iadd G0.1 G0.2.1 dL_law_837 ?_
  refine lv_topi (fun x_4 ex_4 => ?_)
  first | have tx_4 := ti_add ex_4 (by omega) (by omega) | skip
  have rg_5 : vp_in x_4 N := ti_in (by omega) (by omega)
  refine va_sld G0.1 G0.2.1 hX hbl hbA hw.2.2.2.1 rg_5 dL_law_838 ?_
  refine lv_topi (fun x_6 ex_6 => ?_)
  refine lv_aload_n G0.1 G0.2.1 dL_law_839 rfl (lv_at hl 4 rfl) ?_
  refine lv_iload G0.1 G0.2.1 dL_law_840 (lv_at hl 0 rfl) ?_
  refine lv_iconst (v := 3) G0.1 G0.2.1 dL_law_842 (by decide) ?_
  refine lv_iadd G0.1 G0.2.1 dL_law_843 ?_
  refine lv_topi (fun x_7 ex_7 => ?_)
  first | have tx_7 := ti_add ex_7 (by omega) (by omega) | skip
  have rg_8 : vp_in x_7 N := ti_in (by omega) (by omega)
  refine va_sld G0.1 G0.2.1 hX hbl hbA hw.2.2.2.1 rg_8 dL_law_844 ?_
  refine lv_topi (fun x_9 ex_9 => ?_)
  refine lv_aload_n G0.1 G0.2.1 dL_law_845 rfl (lv_at hl 4 rfl) ?_
  refine lv_iload G0.1 G0.2.1 dL_law_846 (lv_at hl 0 rfl) ?_
  refine lv_iconst (v := 4) G0.1 G0.2.1 dL_law_848 (by decide) ?_
  refine lv_iadd G0.1 G0.2.1 dL_law_849 ?_
  refine lv_topi (fun x_10 ex_10 => ?_)
  first | have tx_10 := ti_add ex_10 (by omega) (by omega) | skip
  have rg_11 : vp_in x_10 N := ti_in (by omega) (by omega)
  refine va_sld G0.1 G0.2.1 hX hbl hbA hw.2.2.2.1 rg_11 dL_law_850 ?_
  refine lv_topi (fun x_12 ex_12 => ?_)
  obtain ⟨v_19, v_20, v_21, hr_18, -⟩ := wg_11 hWF Tx
  have ht10 := fo_ty hWF (wt_11 hG Tx).2.2.2.2.2.1
  refine py_calli hw (va_runV (As := [.int x_3, .int x_6, .int x_9, .int x_12]) (rest := []) G0 (c_X11_tried l E G L f H.size x x_3 x_6 x_9 x_12 hG hWF Tx hGI) (cwV 4 G0.2.2.2.2 g_L_law_X11_tried_107 rfl rfl rfl (by decide +kernel) ⟨(Nat.le_of_ble_eq_true rfl), (Nat.le_of_ble_eq_true rfl)⟩) (py_preV hw (C := RX11) (T := TX11) (N := 16) rfl hr_18) rfl rfl hl.1 rfl (lv_room (Nat.le_of_ble_eq_true rfl)) dL_law_851 ⟨rm_c (by omega), rm_s (by omega)⟩) (fun r_17 L_13 f_14 H_15 locs hp_16 hw => ?_)
  obtain ⟨en0r_17, hWF, kp_22, hGI⟩ := hp_16
  have hGM := hGM.kps hG Tu kp_22 (LK.of (by decide)) (by decide)
  have hTY := hTY.cl hG Tx Tu kp_22 (by decide) en0r_17 (hy_same (kp_f kp_22 Tx (by decide) (by decide) (fun _ => by decide))).2
  have hTI := hTI.clx hG Tx Tu kp_22 (by decide)
  refine lv_pop G0.1 G0.2.1 dL_law_854 rfl ?_
  refine lv_aload_n G0.1 G0.2.1 dL_law_855 rfl (lv_at hl 2 rfl) ?_
  refine lv_aload_n G0.1 G0.2.1 dL_law_856 rfl (lv_at hl 4 rfl) ?_
  refine lv_iload G0.1 G0.2.1 dL_law_857 (lv_at hl 0 rfl) ?_
  refine lv_iconst (v := 1) G0.1 G0.2.1 dL_law_859 (by decide) ?_
  refine lv_iadd G0.1 G0.2.1 dL_law_860 ?_
  refine lv_topi (fun x_23 ex_23 => ?_)
  first | have tx_23 := ti_add ex_23 (by omega) (by omega) | skip
  have rg_24 : vp_in x_23 N := ti_in (by omega) (by omega)
  refine va_sld G0.1 G0.2.1 hX hbl hbA hw.2.2.2.1 rg_24 dL_law_861 ?_
  refine lv_topi (fun x_25 ex_25 => ?_)
  have Qx_25 : x_25 = x_3 := by rw [ex_25, ex_3, ex_23, ex_1]
  have qx_25 : x_25.toInt = x_3.toInt := by rw [Qx_25]
  refine lv_aload_n G0.1 G0.2.1 dL_law_862 rfl (lv_at hl 4 rfl) ?_
  refine lv_iload G0.1 G0.2.1 dL_law_863 (lv_at hl 0 rfl) ?_
  refine lv_iconst (v := 2) G0.1 G0.2.1 dL_law_865 (by decide) ?_
  refine lv_iadd G0.1 G0.2.1 dL_law_866 ?_
  refine lv_topi (fun x_26 ex_26 => ?_)
  first | have tx_26 := ti_add ex_26 (by omega) (by omega) | skip
  have rg_27 : vp_in x_26 N := ti_in (by omega) (by omega)
  refine va_sld G0.1 G0.2.1 hX hbl hbA hw.2.2.2.1 rg_27 dL_law_867 ?_
  refine lv_topi (fun x_28 ex_28 => ?_)
  have Qx_28 : x_28 = x_6 := by rw [ex_28, ex_6, ex_26, ex_4]
  have qx_28 : x_28.toInt = x_6.toInt := by rw [Qx_28]
  refine lv_aload_n G0.1 G0.2.1 dL_law_868 rfl (lv_at hl 4 rfl) ?_
  refine lv_iload G0.1 G0.2.1 dL_law_869 (lv_at hl 0 rfl) ?_
  refine lv_iconst (v := 3) G0.1 G0.2.1 dL_law_871 (by decide) ?_
  refine lv_iadd G0.1 G0.2.1 dL_law_872 ?_
  refine lv_topi (fun x_29 ex_29 => ?_)
  first | have tx_29 := ti_add ex_29 (by omega) (by omega) | skip
  have rg_30 : vp_in x_29 N := ti_in (by omega) (by omega)
  refine va_sld G0.1 G0.2.1 hX hbl hbA hw.2.2.2.1 rg_30 dL_law_873 ?_
  refine lv_topi (fun x_31 ex_31 => ?_)
  have Qx_31 : x_31 = x_9 := by rw [ex_31, ex_9, ex_29, ex_7]
  have qx_31 : x_31.toInt = x_9.toInt := by rw [Qx_31]
  refine lv_aload_n G0.1 G0.2.1 dL_law_874 rfl (lv_at hl 4 rfl) ?_
  refine lv_iload G0.1 G0.2.1 dL_law_875 (lv_at hl 0 rfl) ?_
  refine lv_iconst (v := 4) G0.1 G0.2.1 dL_law_877 (by decide) ?_
  refine lv_iadd G0.1 G0.2.1 dL_law_878 ?_
  refine lv_topi (fun x_32 ex_32 => ?_)
  first | have tx_32 := ti_add ex_32 (by omega) (by omega) | skip
  have rg_33 : vp_in x_32 N := ti_in (by omega) (by omega)
  refine va_sld G0.1 G0.2.1 hX hbl hbA hw.2.2.2.1 rg_33 dL_law_879 ?_
  refine lv_topi (fun x_34 ex_34 => ?_)
  have Qx_34 : x_34 = x_12 := by rw [ex_34, ex_12, ex_32, ex_10]
  have qx_34 : x_34.toInt = x_12.toInt := by rw [Qx_34]
  obtain ⟨v_41, v_42, v_43, v_44, v_45, v_46, v_47, v_48, v_49, v_50, v_51, v_52, v_53, v_54, v_55, v_56, v_57, v_58, v_59, v_60, v_61, v_62, hr_40, -⟩ := wg_12 hWF Tu
  have ht10 := fo_ty hWF (wt_11 hG Tx).2.2.2.2.2.1
  refine py_calli hw (va_runV (As := [.int x_25, .int x_28, .int x_31, .int x_34]) (rest := []) G0 (c_X12_tried l E G L_13 f_14 H_15.size u x_25 x_28 x_31 x_34 hG hWF Tu hGM) (cwV 4 G0.2.2.2.2 g_L_law_X12_tried_111 rfl rfl rfl (by decide +kernel) ⟨(Nat.le_of_ble_eq_true rfl), (Nat.le_of_ble_eq_true rfl)⟩) (py_preV hw (C := RX12) (T := TX12) (N := 54) rfl hr_40) rfl rfl hl.1 rfl (lv_room (Nat.le_of_ble_eq_true rfl)) dL_law_880 ⟨rm_c (by omega), rm_s (by omega)⟩) (fun r_39 L_35 f_36 H_37 locs hp_38 hw => ?_)
  obtain ⟨hWF, kp_63, fkr_39⟩ := hp_38
  have hGI := hGI.kp hG Tx ht10 (rp_kp hG kp_63 (by decide) (by decide)) kp_63 (by decide)
  have hGM := hGM.kp hG Tu kp_63 fkr_39 (LK.of (by decide)) (by decide)
  have hTY := hTY.rf hG Tx ht10 kp_63 fkr_39 (by decide) (by decide)
  have hTI := hTI.rf hG Tx Tu kp_63 fkr_39 (by decide) (by decide)
  refine lv_pop G0.1 G0.2.1 dL_law_883 rfl ?_
  refine lv_goto (tgt := 1321) G0.1 G0.2.1 dL_law_884 (by decide) ?_
  refine W.widen (k := C + 8) (n := S + 256) (by omega) (by omega) ?_
  exact kk _ _ _ _ ls ⟨G, gb, nb, hG, hWF, Tx, Tu, To, hGI, hGM, hTI, hTY⟩ hw (lv_sub hl [0, 1, 2, 3, 4] rfl)
set_option maxHeartbeats 4000000 in
set_option maxRecDepth 100000 in
theorem lc_20 {p : Program} {e : Env} {s : State} {m : MethodId} {below : List Frame} {meth : Method} {c : Code} (l : Launch) (hst : l.stackTraces = false) {b N : Nat} {xs : Nat → Int32} (C0 : lw_At p s m meth c b N xs) (G0 : CallFix p m c cL_law 7 s #[Value.ref b] w_L_law RL) (hN : N ≤ 3072) {E : py_E} {L : List Nat} {f : py_F} {H : Heap} {locs : List Loc} (hw : py_W E (fun q : Nat => s.heap.size ≤ q) s L f H locs) {x u o : Nat} (hLW : LW E L f x u o) {i : Int32} (hi0 : 0 ≤ i.toInt) (hiN : i.toInt + 6 ≤ N) {C S : Nat} (hC : C + 8 ≤ 601024) (hS : S + 256 ≤ 7293034) {ls : Array Slot} (hl : lv_has ls 7 [(4, .int i), (3, .ref o), (2, .ref u), (1, .ref x), (0, .ref b)]) (kk : ∀ (L1 : List Nat) (f1 : py_F) (H1 : Heap) (locs1 : List Loc) (ls1 : Array Slot), LW E L1 f1 x u o → py_W E (fun q : Nat => s.heap.size ≤ q) s L1 f1 H1 locs1 → lv_has ls1 7 [(4, .int i), (3, .ref o), (2, .ref u), (1, .ref x), (0, .ref b)] → W p l e room_1 s m #[Value.ref b] below meth c H1 locs1 (C + 8) (S + 256) (lw_Z below #[Value.ref b] s) (F0 m 1321 ls1 [])) : W p l e room_1 s m #[Value.ref b] below meth c H locs (C) (S) (lw_Z below #[Value.ref b] s) (F0 m 887 ls []) := by
  obtain ⟨hx, hb, hr, hml, hown, hts, hX, hbl, hlocks, hgv⟩ := id C0
  have hbA : ¬ (fun q : Nat => s.heap.size ≤ q) b := Nat.not_le.mpr hbl
  have kcm1 : (-1 : Int32).toInt = -1 := rfl
  have kc0 : (0 : Int32).toInt = 0 := rfl
  have kc1 : (1 : Int32).toInt = 1 := rfl
  have kc2 : (2 : Int32).toInt = 2 := rfl
  obtain ⟨G, gb, nb, hG, hWF, Tx, Tu, To, hGI, hGM, hTI, hTY⟩ := hLW
  refine lv_aload_n G0.1 G0.2.1 dL_law_887 rfl (lv_at hl 3 rfl) ?_
  refine lv_aload_n G0.1 G0.2.1 dL_law_888 rfl (lv_at hl 4 rfl) ?_
  refine lv_iload G0.1 G0.2.1 dL_law_889 (lv_at hl 0 rfl) ?_
  refine lv_iconst (v := 1) G0.1 G0.2.1 dL_law_891 (by decide) ?_
  refine lv_iadd G0.1 G0.2.1 dL_law_892 ?_
  refine lv_topi (fun x_1 ex_1 => ?_)
  first | have tx_1 := ti_add ex_1 (by omega) (by omega) | skip
  have rg_2 : vp_in x_1 N := ti_in (by omega) (by omega)
  refine va_sld G0.1 G0.2.1 hX hbl hbA hw.2.2.2.1 rg_2 dL_law_893 ?_
  refine lv_topi (fun x_3 ex_3 => ?_)
  refine lv_aload_n G0.1 G0.2.1 dL_law_894 rfl (lv_at hl 4 rfl) ?_
  refine lv_iload G0.1 G0.2.1 dL_law_895 (lv_at hl 0 rfl) ?_
  refine lv_iconst (v := 2) G0.1 G0.2.1 dL_law_897 (by decide) ?_
  refine lv_iadd G0.1 G0.2.1 dL_law_898 ?_
  refine lv_topi (fun x_4 ex_4 => ?_)
  first | have tx_4 := ti_add ex_4 (by omega) (by omega) | skip
  have rg_5 : vp_in x_4 N := ti_in (by omega) (by omega)
  refine va_sld G0.1 G0.2.1 hX hbl hbA hw.2.2.2.1 rg_5 dL_law_899 ?_
  refine lv_topi (fun x_6 ex_6 => ?_)
  obtain ⟨v_13, v_14, v_15, hr_12, -⟩ := wg_11 hWF Tx
  have ht10 := fo_ty hWF (wt_11 hG Tx).2.2.2.2.2.1
  refine py_calli hw (va_runV (As := [.int x_3, .int x_6]) (rest := []) G0 (c_X11_reform l E G L f H.size x x_3 x_6 hG hWF Tx hGI) (cwV 2 G0.2.2.2.2 g_L_law_X11_reform_112 rfl rfl rfl (by decide +kernel) ⟨(Nat.le_of_ble_eq_true rfl), (Nat.le_of_ble_eq_true rfl)⟩) (py_preV hw (C := RX11) (T := TX11) (N := 16) rfl hr_12) rfl rfl hl.1 rfl (lv_room (Nat.le_of_ble_eq_true rfl)) dL_law_900 ⟨rm_c (by omega), rm_s (by omega)⟩) (fun r_11 L_7 f_8 H_9 locs hp_10 hw => ?_)
  obtain ⟨en0r_11, hWF, kp_16, hGI⟩ := hp_10
  have hGM := hGM.kps hG Tu kp_16 (LK.of (by decide)) (by decide)
  have hTY := hTY.cl hG Tx Tu kp_16 (by decide) en0r_11 (hy_same (kp_f kp_16 Tx (by decide) (by decide) (fun _ => by decide))).2
  have hTI := hTI.clx hG Tx Tu kp_16 (by decide)
  refine lv_pop G0.1 G0.2.1 dL_law_903 rfl ?_
  refine lv_aload_n G0.1 G0.2.1 dL_law_904 rfl (lv_at hl 2 rfl) ?_
  refine lv_aload_n G0.1 G0.2.1 dL_law_905 rfl (lv_at hl 4 rfl) ?_
  refine lv_iload G0.1 G0.2.1 dL_law_906 (lv_at hl 0 rfl) ?_
  refine lv_iconst (v := 1) G0.1 G0.2.1 dL_law_908 (by decide) ?_
  refine lv_iadd G0.1 G0.2.1 dL_law_909 ?_
  refine lv_topi (fun x_17 ex_17 => ?_)
  first | have tx_17 := ti_add ex_17 (by omega) (by omega) | skip
  have rg_18 : vp_in x_17 N := ti_in (by omega) (by omega)
  refine va_sld G0.1 G0.2.1 hX hbl hbA hw.2.2.2.1 rg_18 dL_law_910 ?_
  refine lv_topi (fun x_19 ex_19 => ?_)
  have Qx_19 : x_19 = x_3 := by rw [ex_19, ex_3, ex_17, ex_1]
  have qx_19 : x_19.toInt = x_3.toInt := by rw [Qx_19]
  refine lv_aload_n G0.1 G0.2.1 dL_law_911 rfl (lv_at hl 4 rfl) ?_
  refine lv_iload G0.1 G0.2.1 dL_law_912 (lv_at hl 0 rfl) ?_
  refine lv_iconst (v := 2) G0.1 G0.2.1 dL_law_914 (by decide) ?_
  refine lv_iadd G0.1 G0.2.1 dL_law_915 ?_
  refine lv_topi (fun x_20 ex_20 => ?_)
  first | have tx_20 := ti_add ex_20 (by omega) (by omega) | skip
  have rg_21 : vp_in x_20 N := ti_in (by omega) (by omega)
  refine va_sld G0.1 G0.2.1 hX hbl hbA hw.2.2.2.1 rg_21 dL_law_916 ?_
  refine lv_topi (fun x_22 ex_22 => ?_)
  have Qx_22 : x_22 = x_6 := by rw [ex_22, ex_6, ex_20, ex_4]
  have qx_22 : x_22.toInt = x_6.toInt := by rw [Qx_22]
  obtain ⟨v_29, v_30, v_31, v_32, v_33, v_34, v_35, v_36, v_37, v_38, v_39, v_40, v_41, v_42, v_43, v_44, v_45, v_46, v_47, v_48, v_49, v_50, hr_28, -⟩ := wg_12 hWF Tu
  have ht10 := fo_ty hWF (wt_11 hG Tx).2.2.2.2.2.1
  refine py_calli hw (va_runV (As := [.int x_19, .int x_22]) (rest := []) G0 (c_X12_reform l E G L_7 f_8 H_9.size u x_19 x_22 hG hWF Tu hGM) (cwV 2 G0.2.2.2.2 g_L_law_X12_reform_115 rfl rfl rfl (by decide +kernel) ⟨(Nat.le_of_ble_eq_true rfl), (Nat.le_of_ble_eq_true rfl)⟩) (py_preV hw (C := RX12) (T := TX12) (N := 54) rfl hr_28) rfl rfl hl.1 rfl (lv_room (Nat.le_of_ble_eq_true rfl)) dL_law_917 ⟨rm_c (by omega), rm_s (by omega)⟩) (fun r_27 L_23 f_24 H_25 locs hp_26 hw => ?_)
  obtain ⟨hWF, kp_51, fkr_27⟩ := hp_26
  have hGI := hGI.kp hG Tx ht10 (rp_kp hG kp_51 (by decide) (by decide)) kp_51 (by decide)
  have hGM := hGM.kp hG Tu kp_51 fkr_27 (LK.of (by decide)) (by decide)
  have hTY := hTY.rf hG Tx ht10 kp_51 fkr_27 (by decide) (by decide)
  have hTI := hTI.rf hG Tx Tu kp_51 fkr_27 (by decide) (by decide)
  refine lv_pop G0.1 G0.2.1 dL_law_920 rfl ?_
  refine lv_goto (tgt := 1321) G0.1 G0.2.1 dL_law_921 (by decide) ?_
  refine W.widen (k := C + 8) (n := S + 256) (by omega) (by omega) ?_
  exact kk _ _ _ _ ls ⟨G, gb, nb, hG, hWF, Tx, Tu, To, hGI, hGM, hTI, hTY⟩ hw (lv_sub hl [0, 1, 2, 3, 4] rfl)
set_option maxHeartbeats 4000000 in
set_option maxRecDepth 100000 in
theorem lc_21 {p : Program} {e : Env} {s : State} {m : MethodId} {below : List Frame} {meth : Method} {c : Code} (l : Launch) (hst : l.stackTraces = false) {b N : Nat} {xs : Nat → Int32} (C0 : lw_At p s m meth c b N xs) (G0 : CallFix p m c cL_law 7 s #[Value.ref b] w_L_law RL) (hN : N ≤ 3072) {E : py_E} {L : List Nat} {f : py_F} {H : Heap} {locs : List Loc} (hw : py_W E (fun q : Nat => s.heap.size ≤ q) s L f H locs) {x u o : Nat} (hLW : LW E L f x u o) {i : Int32} (hi0 : 0 ≤ i.toInt) (hiN : i.toInt + 6 ≤ N) {C S : Nat} (hC : C + 8 ≤ 601024) (hS : S + 256 ≤ 7293034) {ls : Array Slot} (hl : lv_has ls 7 [(4, .int i), (3, .ref o), (2, .ref u), (1, .ref x), (0, .ref b)]) (kk : ∀ (L1 : List Nat) (f1 : py_F) (H1 : Heap) (locs1 : List Loc) (ls1 : Array Slot), LW E L1 f1 x u o → py_W E (fun q : Nat => s.heap.size ≤ q) s L1 f1 H1 locs1 → lv_has ls1 7 [(4, .int i), (3, .ref o), (2, .ref u), (1, .ref x), (0, .ref b)] → W p l e room_1 s m #[Value.ref b] below meth c H1 locs1 (C + 8) (S + 256) (lw_Z below #[Value.ref b] s) (F0 m 1321 ls1 [])) : W p l e room_1 s m #[Value.ref b] below meth c H locs (C) (S) (lw_Z below #[Value.ref b] s) (F0 m 924 ls []) := by
  obtain ⟨hx, hb, hr, hml, hown, hts, hX, hbl, hlocks, hgv⟩ := id C0
  have hbA : ¬ (fun q : Nat => s.heap.size ≤ q) b := Nat.not_le.mpr hbl
  have kcm1 : (-1 : Int32).toInt = -1 := rfl
  have kc0 : (0 : Int32).toInt = 0 := rfl
  have kc1 : (1 : Int32).toInt = 1 := rfl
  have kc2 : (2 : Int32).toInt = 2 := rfl
  have kc3 : (3 : Int32).toInt = 3 := rfl
  obtain ⟨G, gb, nb, hG, hWF, Tx, Tu, To, hGI, hGM, hTI, hTY⟩ := hLW
  refine lv_aload_n G0.1 G0.2.1 dL_law_924 rfl (lv_at hl 3 rfl) ?_
  refine lv_aload_n G0.1 G0.2.1 dL_law_925 rfl (lv_at hl 4 rfl) ?_
  refine lv_iload G0.1 G0.2.1 dL_law_926 (lv_at hl 0 rfl) ?_
  refine lv_iconst (v := 1) G0.1 G0.2.1 dL_law_928 (by decide) ?_
  refine lv_iadd G0.1 G0.2.1 dL_law_929 ?_
  refine lv_topi (fun x_1 ex_1 => ?_)
  first | have tx_1 := ti_add ex_1 (by omega) (by omega) | skip
  have rg_2 : vp_in x_1 N := ti_in (by omega) (by omega)
  refine va_sld G0.1 G0.2.1 hX hbl hbA hw.2.2.2.1 rg_2 dL_law_930 ?_
  refine lv_topi (fun x_3 ex_3 => ?_)
  refine lv_aload_n G0.1 G0.2.1 dL_law_931 rfl (lv_at hl 4 rfl) ?_
  refine lv_iload G0.1 G0.2.1 dL_law_932 (lv_at hl 0 rfl) ?_
  refine lv_iconst (v := 2) G0.1 G0.2.1 dL_law_934 (by decide) ?_
  refine lv_iadd G0.1 G0.2.1 dL_law_935 ?_
  refine lv_topi (fun x_4 ex_4 => ?_)
  first | have tx_4 := ti_add ex_4 (by omega) (by omega) | skip
  have rg_5 : vp_in x_4 N := ti_in (by omega) (by omega)
  refine va_sld G0.1 G0.2.1 hX hbl hbA hw.2.2.2.1 rg_5 dL_law_936 ?_
  refine lv_topi (fun x_6 ex_6 => ?_)
  refine lv_aload_n G0.1 G0.2.1 dL_law_937 rfl (lv_at hl 4 rfl) ?_
  refine lv_iload G0.1 G0.2.1 dL_law_938 (lv_at hl 0 rfl) ?_
  refine lv_iconst (v := 3) G0.1 G0.2.1 dL_law_940 (by decide) ?_
  refine lv_iadd G0.1 G0.2.1 dL_law_941 ?_
  refine lv_topi (fun x_7 ex_7 => ?_)
  first | have tx_7 := ti_add ex_7 (by omega) (by omega) | skip
  have rg_8 : vp_in x_7 N := ti_in (by omega) (by omega)
  refine va_sld G0.1 G0.2.1 hX hbl hbA hw.2.2.2.1 rg_8 dL_law_942 ?_
  refine lv_topi (fun x_9 ex_9 => ?_)
  obtain ⟨v_16, v_17, v_18, hr_15, -⟩ := wg_11 hWF Tx
  have ht10 := fo_ty hWF (wt_11 hG Tx).2.2.2.2.2.1
  refine py_calli hw (va_runV (As := [.int x_3, .int x_6, .int x_9]) (rest := []) G0 (c_X11_diary l E G L f H.size x x_3 x_6 x_9 hG hWF Tx) (cwV 3 G0.2.2.2.2 g_L_law_X11_diary_116 rfl rfl rfl (by decide +kernel) ⟨(Nat.le_of_ble_eq_true rfl), (Nat.le_of_ble_eq_true rfl)⟩) (py_preV hw (C := RX11) (T := TX11) (N := 16) rfl hr_15) rfl rfl hl.1 rfl (lv_room (Nat.le_of_ble_eq_true rfl)) dL_law_943 ⟨rm_c (by omega), rm_s (by omega)⟩) (fun r_14 L_10 f_11 H_12 locs hp_13 hw => ?_)
  obtain ⟨rfl, rfl⟩ := hp_13
  refine lv_pop G0.1 G0.2.1 dL_law_946 rfl ?_
  refine lv_aload_n G0.1 G0.2.1 dL_law_947 rfl (lv_at hl 2 rfl) ?_
  refine lv_aload_n G0.1 G0.2.1 dL_law_948 rfl (lv_at hl 4 rfl) ?_
  refine lv_iload G0.1 G0.2.1 dL_law_949 (lv_at hl 0 rfl) ?_
  refine lv_iconst (v := 1) G0.1 G0.2.1 dL_law_951 (by decide) ?_
  refine lv_iadd G0.1 G0.2.1 dL_law_952 ?_
  refine lv_topi (fun x_19 ex_19 => ?_)
  first | have tx_19 := ti_add ex_19 (by omega) (by omega) | skip
  have rg_20 : vp_in x_19 N := ti_in (by omega) (by omega)
  refine va_sld G0.1 G0.2.1 hX hbl hbA hw.2.2.2.1 rg_20 dL_law_953 ?_
  refine lv_topi (fun x_21 ex_21 => ?_)
  have Qx_21 : x_21 = x_3 := by rw [ex_21, ex_3, ex_19, ex_1]
  have qx_21 : x_21.toInt = x_3.toInt := by rw [Qx_21]
  refine lv_aload_n G0.1 G0.2.1 dL_law_954 rfl (lv_at hl 4 rfl) ?_
  refine lv_iload G0.1 G0.2.1 dL_law_955 (lv_at hl 0 rfl) ?_
  refine lv_iconst (v := 2) G0.1 G0.2.1 dL_law_957 (by decide) ?_
  refine lv_iadd G0.1 G0.2.1 dL_law_958 ?_
  refine lv_topi (fun x_22 ex_22 => ?_)
  first | have tx_22 := ti_add ex_22 (by omega) (by omega) | skip
  have rg_23 : vp_in x_22 N := ti_in (by omega) (by omega)
  refine va_sld G0.1 G0.2.1 hX hbl hbA hw.2.2.2.1 rg_23 dL_law_959 ?_
  refine lv_topi (fun x_24 ex_24 => ?_)
  have Qx_24 : x_24 = x_6 := by rw [ex_24, ex_6, ex_22, ex_4]
  have qx_24 : x_24.toInt = x_6.toInt := by rw [Qx_24]
  refine lv_aload_n G0.1 G0.2.1 dL_law_960 rfl (lv_at hl 4 rfl) ?_
  refine lv_iload G0.1 G0.2.1 dL_law_961 (lv_at hl 0 rfl) ?_
  refine lv_iconst (v := 3) G0.1 G0.2.1 dL_law_963 (by decide) ?_
  refine lv_iadd G0.1 G0.2.1 dL_law_964 ?_
  refine lv_topi (fun x_25 ex_25 => ?_)
  first | have tx_25 := ti_add ex_25 (by omega) (by omega) | skip
  have rg_26 : vp_in x_25 N := ti_in (by omega) (by omega)
  refine va_sld G0.1 G0.2.1 hX hbl hbA hw.2.2.2.1 rg_26 dL_law_965 ?_
  refine lv_topi (fun x_27 ex_27 => ?_)
  have Qx_27 : x_27 = x_9 := by rw [ex_27, ex_9, ex_25, ex_7]
  have qx_27 : x_27.toInt = x_9.toInt := by rw [Qx_27]
  obtain ⟨v_34, v_35, v_36, v_37, v_38, v_39, v_40, v_41, v_42, v_43, v_44, v_45, v_46, v_47, v_48, v_49, v_50, v_51, v_52, v_53, v_54, v_55, hr_33, -⟩ := wg_12 hWF Tu
  have ht10 := fo_ty hWF (wt_11 hG Tx).2.2.2.2.2.1
  refine py_calli hw (va_runV (As := [.int x_21, .int x_24, .int x_27]) (rest := []) G0 (c_X12_diary l E G L f H_12.size u x_21 x_24 x_27 hG hWF Tu) (cwV 3 G0.2.2.2.2 g_L_law_X12_diary_119 rfl rfl rfl (by decide +kernel) ⟨(Nat.le_of_ble_eq_true rfl), (Nat.le_of_ble_eq_true rfl)⟩) (py_preV hw (C := RX12) (T := TX12) (N := 54) rfl hr_33) rfl rfl hl.1 rfl (lv_room (Nat.le_of_ble_eq_true rfl)) dL_law_966 ⟨rm_c (by omega), rm_s (by omega)⟩) (fun r_32 L_28 f_29 H_30 locs hp_31 hw => ?_)
  obtain ⟨rfl, rfl⟩ := hp_31
  refine lv_pop G0.1 G0.2.1 dL_law_969 rfl ?_
  refine lv_goto (tgt := 1321) G0.1 G0.2.1 dL_law_970 (by decide) ?_
  refine W.widen (k := C + 8) (n := S + 256) (by omega) (by omega) ?_
  exact kk _ _ _ _ ls ⟨G, gb, nb, hG, hWF, Tx, Tu, To, hGI, hGM, hTI, hTY⟩ hw (lv_sub hl [0, 1, 2, 3, 4] rfl)
set_option maxHeartbeats 4000000 in
set_option maxRecDepth 100000 in
theorem lc_22 {p : Program} {e : Env} {s : State} {m : MethodId} {below : List Frame} {meth : Method} {c : Code} (l : Launch) (hst : l.stackTraces = false) {b N : Nat} {xs : Nat → Int32} (C0 : lw_At p s m meth c b N xs) (G0 : CallFix p m c cL_law 7 s #[Value.ref b] w_L_law RL) (hN : N ≤ 3072) {E : py_E} {L : List Nat} {f : py_F} {H : Heap} {locs : List Loc} (hw : py_W E (fun q : Nat => s.heap.size ≤ q) s L f H locs) {x u o : Nat} (hLW : LW E L f x u o) {i : Int32} (hi0 : 0 ≤ i.toInt) (hiN : i.toInt + 6 ≤ N) {C S : Nat} (hC : C + 8 ≤ 601024) (hS : S + 256 ≤ 7293034) {ls : Array Slot} (hl : lv_has ls 7 [(4, .int i), (3, .ref o), (2, .ref u), (1, .ref x), (0, .ref b)]) (kk : ∀ (L1 : List Nat) (f1 : py_F) (H1 : Heap) (locs1 : List Loc) (ls1 : Array Slot), LW E L1 f1 x u o → py_W E (fun q : Nat => s.heap.size ≤ q) s L1 f1 H1 locs1 → lv_has ls1 7 [(4, .int i), (3, .ref o), (2, .ref u), (1, .ref x), (0, .ref b)] → W p l e room_1 s m #[Value.ref b] below meth c H1 locs1 (C + 8) (S + 256) (lw_Z below #[Value.ref b] s) (F0 m 1321 ls1 [])) : W p l e room_1 s m #[Value.ref b] below meth c H locs (C) (S) (lw_Z below #[Value.ref b] s) (F0 m 973 ls []) := by
  obtain ⟨hx, hb, hr, hml, hown, hts, hX, hbl, hlocks, hgv⟩ := id C0
  have hbA : ¬ (fun q : Nat => s.heap.size ≤ q) b := Nat.not_le.mpr hbl
  have kcm1 : (-1 : Int32).toInt = -1 := rfl
  have kc0 : (0 : Int32).toInt = 0 := rfl
  have kc1 : (1 : Int32).toInt = 1 := rfl
  have kc2 : (2 : Int32).toInt = 2 := rfl
  obtain ⟨G, gb, nb, hG, hWF, Tx, Tu, To, hGI, hGM, hTI, hTY⟩ := hLW
  refine lv_aload_n G0.1 G0.2.1 dL_law_973 rfl (lv_at hl 3 rfl) ?_
  refine lv_aload_n G0.1 G0.2.1 dL_law_974 rfl (lv_at hl 4 rfl) ?_
  refine lv_iload G0.1 G0.2.1 dL_law_975 (lv_at hl 0 rfl) ?_
  refine lv_iconst (v := 1) G0.1 G0.2.1 dL_law_977 (by decide) ?_
  refine lv_iadd G0.1 G0.2.1 dL_law_978 ?_
  refine lv_topi (fun x_1 ex_1 => ?_)
  first | have tx_1 := ti_add ex_1 (by omega) (by omega) | skip
  have rg_2 : vp_in x_1 N := ti_in (by omega) (by omega)
  refine va_sld G0.1 G0.2.1 hX hbl hbA hw.2.2.2.1 rg_2 dL_law_979 ?_
  refine lv_topi (fun x_3 ex_3 => ?_)
  refine lv_aload_n G0.1 G0.2.1 dL_law_980 rfl (lv_at hl 4 rfl) ?_
  refine lv_iload G0.1 G0.2.1 dL_law_981 (lv_at hl 0 rfl) ?_
  refine lv_iconst (v := 2) G0.1 G0.2.1 dL_law_983 (by decide) ?_
  refine lv_iadd G0.1 G0.2.1 dL_law_984 ?_
  refine lv_topi (fun x_4 ex_4 => ?_)
  first | have tx_4 := ti_add ex_4 (by omega) (by omega) | skip
  have rg_5 : vp_in x_4 N := ti_in (by omega) (by omega)
  refine va_sld G0.1 G0.2.1 hX hbl hbA hw.2.2.2.1 rg_5 dL_law_985 ?_
  refine lv_topi (fun x_6 ex_6 => ?_)
  obtain ⟨v_13, v_14, v_15, hr_12, -⟩ := wg_11 hWF Tx
  have ht10 := fo_ty hWF (wt_11 hG Tx).2.2.2.2.2.1
  refine py_calli hw (va_runV (As := [.int x_3, .int x_6]) (rest := []) G0 (c_X11_climb l E G L f H.size x x_3 x_6 hG hWF Tx) (cwV 2 G0.2.2.2.2 g_L_law_X11_climb_120 rfl rfl rfl (by decide +kernel) ⟨(Nat.le_of_ble_eq_true rfl), (Nat.le_of_ble_eq_true rfl)⟩) (py_preV hw (C := RX11) (T := TX11) (N := 16) rfl hr_12) rfl rfl hl.1 rfl (lv_room (Nat.le_of_ble_eq_true rfl)) dL_law_986 ⟨rm_c (by omega), rm_s (by omega)⟩) (fun r_11 L_7 f_8 H_9 locs hp_10 hw => ?_)
  obtain ⟨rfl, rfl⟩ := hp_10
  refine lv_pop G0.1 G0.2.1 dL_law_989 rfl ?_
  refine lv_aload_n G0.1 G0.2.1 dL_law_990 rfl (lv_at hl 2 rfl) ?_
  refine lv_aload_n G0.1 G0.2.1 dL_law_991 rfl (lv_at hl 4 rfl) ?_
  refine lv_iload G0.1 G0.2.1 dL_law_992 (lv_at hl 0 rfl) ?_
  refine lv_iconst (v := 1) G0.1 G0.2.1 dL_law_994 (by decide) ?_
  refine lv_iadd G0.1 G0.2.1 dL_law_995 ?_
  refine lv_topi (fun x_16 ex_16 => ?_)
  first | have tx_16 := ti_add ex_16 (by omega) (by omega) | skip
  have rg_17 : vp_in x_16 N := ti_in (by omega) (by omega)
  refine va_sld G0.1 G0.2.1 hX hbl hbA hw.2.2.2.1 rg_17 dL_law_996 ?_
  refine lv_topi (fun x_18 ex_18 => ?_)
  have Qx_18 : x_18 = x_3 := by rw [ex_18, ex_3, ex_16, ex_1]
  have qx_18 : x_18.toInt = x_3.toInt := by rw [Qx_18]
  refine lv_aload_n G0.1 G0.2.1 dL_law_997 rfl (lv_at hl 4 rfl) ?_
  refine lv_iload G0.1 G0.2.1 dL_law_998 (lv_at hl 0 rfl) ?_
  refine lv_iconst (v := 2) G0.1 G0.2.1 dL_law_1000 (by decide) ?_
  refine lv_iadd G0.1 G0.2.1 dL_law_1001 ?_
  refine lv_topi (fun x_19 ex_19 => ?_)
  first | have tx_19 := ti_add ex_19 (by omega) (by omega) | skip
  have rg_20 : vp_in x_19 N := ti_in (by omega) (by omega)
  refine va_sld G0.1 G0.2.1 hX hbl hbA hw.2.2.2.1 rg_20 dL_law_1002 ?_
  refine lv_topi (fun x_21 ex_21 => ?_)
  have Qx_21 : x_21 = x_6 := by rw [ex_21, ex_6, ex_19, ex_4]
  have qx_21 : x_21.toInt = x_6.toInt := by rw [Qx_21]
  obtain ⟨v_28, v_29, v_30, v_31, v_32, v_33, v_34, v_35, v_36, v_37, v_38, v_39, v_40, v_41, v_42, v_43, v_44, v_45, v_46, v_47, v_48, v_49, hr_27, -⟩ := wg_12 hWF Tu
  have ht10 := fo_ty hWF (wt_11 hG Tx).2.2.2.2.2.1
  refine py_calli hw (va_runV (As := [.int x_18, .int x_21]) (rest := []) G0 (c_X12_climb l E G L f H_9.size u x_18 x_21 hG hWF Tu) (cwV 2 G0.2.2.2.2 g_L_law_X12_climb_123 rfl rfl rfl (by decide +kernel) ⟨(Nat.le_of_ble_eq_true rfl), (Nat.le_of_ble_eq_true rfl)⟩) (py_preV hw (C := RX12) (T := TX12) (N := 54) rfl hr_27) rfl rfl hl.1 rfl (lv_room (Nat.le_of_ble_eq_true rfl)) dL_law_1003 ⟨rm_c (by omega), rm_s (by omega)⟩) (fun r_26 L_22 f_23 H_24 locs hp_25 hw => ?_)
  obtain ⟨rfl, rfl⟩ := hp_25
  refine lv_pop G0.1 G0.2.1 dL_law_1006 rfl ?_
  refine lv_goto (tgt := 1321) G0.1 G0.2.1 dL_law_1007 (by decide) ?_
  refine W.widen (k := C + 8) (n := S + 256) (by omega) (by omega) ?_
  exact kk _ _ _ _ ls ⟨G, gb, nb, hG, hWF, Tx, Tu, To, hGI, hGM, hTI, hTY⟩ hw (lv_sub hl [0, 1, 2, 3, 4] rfl)
set_option maxHeartbeats 4000000 in
set_option maxRecDepth 100000 in
theorem lc_23 {p : Program} {e : Env} {s : State} {m : MethodId} {below : List Frame} {meth : Method} {c : Code} (l : Launch) (hst : l.stackTraces = false) {b N : Nat} {xs : Nat → Int32} (C0 : lw_At p s m meth c b N xs) (G0 : CallFix p m c cL_law 7 s #[Value.ref b] w_L_law RL) (hN : N ≤ 3072) {E : py_E} {L : List Nat} {f : py_F} {H : Heap} {locs : List Loc} (hw : py_W E (fun q : Nat => s.heap.size ≤ q) s L f H locs) {x u o : Nat} (hLW : LW E L f x u o) {i : Int32} (hi0 : 0 ≤ i.toInt) (hiN : i.toInt + 6 ≤ N) {C S : Nat} (hC : C + 8 ≤ 601024) (hS : S + 256 ≤ 7293034) {ls : Array Slot} (hl : lv_has ls 7 [(4, .int i), (3, .ref o), (2, .ref u), (1, .ref x), (0, .ref b)]) (kk : ∀ (L1 : List Nat) (f1 : py_F) (H1 : Heap) (locs1 : List Loc) (ls1 : Array Slot), LW E L1 f1 x u o → py_W E (fun q : Nat => s.heap.size ≤ q) s L1 f1 H1 locs1 → lv_has ls1 7 [(4, .int i), (3, .ref o), (2, .ref u), (1, .ref x), (0, .ref b)] → W p l e room_1 s m #[Value.ref b] below meth c H1 locs1 (C + 8) (S + 256) (lw_Z below #[Value.ref b] s) (F0 m 1321 ls1 [])) : W p l e room_1 s m #[Value.ref b] below meth c H locs (C) (S) (lw_Z below #[Value.ref b] s) (F0 m 1010 ls []) := by
  obtain ⟨hx, hb, hr, hml, hown, hts, hX, hbl, hlocks, hgv⟩ := id C0
  have hbA : ¬ (fun q : Nat => s.heap.size ≤ q) b := Nat.not_le.mpr hbl
  have kcm1 : (-1 : Int32).toInt = -1 := rfl
  have kc0 : (0 : Int32).toInt = 0 := rfl
  have kc1 : (1 : Int32).toInt = 1 := rfl
  obtain ⟨G, gb, nb, hG, hWF, Tx, Tu, To, hGI, hGM, hTI, hTY⟩ := hLW
  refine lv_aload_n G0.1 G0.2.1 dL_law_1010 rfl (lv_at hl 3 rfl) ?_
  obtain ⟨v_7, v_8, v_9, hr_6, -⟩ := wg_11 hWF Tx
  have ht10 := fo_ty hWF (wt_11 hG Tx).2.2.2.2.2.1
  refine py_calli hw (va_runV (As := []) (rest := []) G0 (c_X11_full l E G L f H.size x hG hWF Tx) (cwV 0 G0.2.2.2.2 g_L_law_X11_full_124 rfl rfl rfl (by decide +kernel) ⟨(Nat.le_of_ble_eq_true rfl), (Nat.le_of_ble_eq_true rfl)⟩) (py_preV hw (C := RX11) (T := TX11) (N := 16) rfl hr_6) rfl rfl hl.1 rfl (lv_room (Nat.le_of_ble_eq_true rfl)) dL_law_1011 ⟨rm_c (by omega), rm_s (by omega)⟩) (fun r_5 L_1 f_2 H_3 locs hp_4 hw => ?_)
  obtain ⟨rfl, rfl⟩ := hp_4
  refine lv_pop G0.1 G0.2.1 dL_law_1014 rfl ?_
  refine lv_aload_n G0.1 G0.2.1 dL_law_1015 rfl (lv_at hl 2 rfl) ?_
  obtain ⟨v_16, v_17, v_18, v_19, v_20, v_21, v_22, v_23, v_24, v_25, v_26, v_27, v_28, v_29, v_30, v_31, v_32, v_33, v_34, v_35, v_36, v_37, hr_15, -⟩ := wg_12 hWF Tu
  have ht10 := fo_ty hWF (wt_11 hG Tx).2.2.2.2.2.1
  refine py_calli hw (va_runV (As := []) (rest := []) G0 (c_X12_full l E G L f H_3.size u hG hWF Tu) (cwV 0 G0.2.2.2.2 g_L_law_X12_full_127 rfl rfl rfl (by decide +kernel) ⟨(Nat.le_of_ble_eq_true rfl), (Nat.le_of_ble_eq_true rfl)⟩) (py_preV hw (C := RX12) (T := TX12) (N := 54) rfl hr_15) rfl rfl hl.1 rfl (lv_room (Nat.le_of_ble_eq_true rfl)) dL_law_1016 ⟨rm_c (by omega), rm_s (by omega)⟩) (fun r_14 L_10 f_11 H_12 locs hp_13 hw => ?_)
  obtain ⟨rfl, rfl⟩ := hp_13
  refine lv_pop G0.1 G0.2.1 dL_law_1019 rfl ?_
  refine lv_goto (tgt := 1321) G0.1 G0.2.1 dL_law_1020 (by decide) ?_
  refine W.widen (k := C + 8) (n := S + 256) (by omega) (by omega) ?_
  exact kk _ _ _ _ ls ⟨G, gb, nb, hG, hWF, Tx, Tu, To, hGI, hGM, hTI, hTY⟩ hw (lv_sub hl [0, 1, 2, 3, 4] rfl)
set_option maxHeartbeats 4000000 in
set_option maxRecDepth 100000 in
theorem lc_24 {p : Program} {e : Env} {s : State} {m : MethodId} {below : List Frame} {meth : Method} {c : Code} (l : Launch) (hst : l.stackTraces = false) {b N : Nat} {xs : Nat → Int32} (C0 : lw_At p s m meth c b N xs) (G0 : CallFix p m c cL_law 7 s #[Value.ref b] w_L_law RL) (hN : N ≤ 3072) {E : py_E} {L : List Nat} {f : py_F} {H : Heap} {locs : List Loc} (hw : py_W E (fun q : Nat => s.heap.size ≤ q) s L f H locs) {x u o : Nat} (hLW : LW E L f x u o) {i : Int32} (hi0 : 0 ≤ i.toInt) (hiN : i.toInt + 6 ≤ N) {C S : Nat} (hC : C + 8 ≤ 601024) (hS : S + 256 ≤ 7293034) {ls : Array Slot} (hl : lv_has ls 7 [(4, .int i), (3, .ref o), (2, .ref u), (1, .ref x), (0, .ref b)]) (kk : ∀ (L1 : List Nat) (f1 : py_F) (H1 : Heap) (locs1 : List Loc) (ls1 : Array Slot), LW E L1 f1 x u o → py_W E (fun q : Nat => s.heap.size ≤ q) s L1 f1 H1 locs1 → lv_has ls1 7 [(4, .int i), (3, .ref o), (2, .ref u), (1, .ref x), (0, .ref b)] → W p l e room_1 s m #[Value.ref b] below meth c H1 locs1 (C + 8) (S + 256) (lw_Z below #[Value.ref b] s) (F0 m 1321 ls1 [])) : W p l e room_1 s m #[Value.ref b] below meth c H locs (C) (S) (lw_Z below #[Value.ref b] s) (F0 m 1023 ls []) := by
  obtain ⟨hx, hb, hr, hml, hown, hts, hX, hbl, hlocks, hgv⟩ := id C0
  have hbA : ¬ (fun q : Nat => s.heap.size ≤ q) b := Nat.not_le.mpr hbl
  have kcm1 : (-1 : Int32).toInt = -1 := rfl
  have kc0 : (0 : Int32).toInt = 0 := rfl
  have kc1 : (1 : Int32).toInt = 1 := rfl
  obtain ⟨G, gb, nb, hG, hWF, Tx, Tu, To, hGI, hGM, hTI, hTY⟩ := hLW
  refine lv_aload_n G0.1 G0.2.1 dL_law_1023 rfl (lv_at hl 3 rfl) ?_
  refine lv_aload_n G0.1 G0.2.1 dL_law_1024 rfl (lv_at hl 4 rfl) ?_
  refine lv_iload G0.1 G0.2.1 dL_law_1025 (lv_at hl 0 rfl) ?_
  refine lv_iconst (v := 1) G0.1 G0.2.1 dL_law_1027 (by decide) ?_
  refine lv_iadd G0.1 G0.2.1 dL_law_1028 ?_
  refine lv_topi (fun x_1 ex_1 => ?_)
  first | have tx_1 := ti_add ex_1 (by omega) (by omega) | skip
  have rg_2 : vp_in x_1 N := ti_in (by omega) (by omega)
  refine va_sld G0.1 G0.2.1 hX hbl hbA hw.2.2.2.1 rg_2 dL_law_1029 ?_
  refine lv_topi (fun x_3 ex_3 => ?_)
  obtain ⟨v_10, v_11, v_12, hr_9, -⟩ := wg_11 hWF Tx
  have ht10 := fo_ty hWF (wt_11 hG Tx).2.2.2.2.2.1
  refine py_calli hw (va_runV (As := [.int x_3]) (rest := []) G0 (c_X11_hungry l E G L f H.size x x_3 hG hWF Tx) (cwV 1 G0.2.2.2.2 g_L_law_X11_hungry_128 rfl rfl rfl (by decide +kernel) ⟨(Nat.le_of_ble_eq_true rfl), (Nat.le_of_ble_eq_true rfl)⟩) (py_preV hw (C := RX11) (T := TX11) (N := 16) rfl hr_9) rfl rfl hl.1 rfl (lv_room (Nat.le_of_ble_eq_true rfl)) dL_law_1030 ⟨rm_c (by omega), rm_s (by omega)⟩) (fun r_8 L_4 f_5 H_6 locs hp_7 hw => ?_)
  obtain ⟨rfl, rfl⟩ := hp_7
  refine lv_pop G0.1 G0.2.1 dL_law_1033 rfl ?_
  refine lv_aload_n G0.1 G0.2.1 dL_law_1034 rfl (lv_at hl 2 rfl) ?_
  refine lv_aload_n G0.1 G0.2.1 dL_law_1035 rfl (lv_at hl 4 rfl) ?_
  refine lv_iload G0.1 G0.2.1 dL_law_1036 (lv_at hl 0 rfl) ?_
  refine lv_iconst (v := 1) G0.1 G0.2.1 dL_law_1038 (by decide) ?_
  refine lv_iadd G0.1 G0.2.1 dL_law_1039 ?_
  refine lv_topi (fun x_13 ex_13 => ?_)
  first | have tx_13 := ti_add ex_13 (by omega) (by omega) | skip
  have rg_14 : vp_in x_13 N := ti_in (by omega) (by omega)
  refine va_sld G0.1 G0.2.1 hX hbl hbA hw.2.2.2.1 rg_14 dL_law_1040 ?_
  refine lv_topi (fun x_15 ex_15 => ?_)
  have Qx_15 : x_15 = x_3 := by rw [ex_15, ex_3, ex_13, ex_1]
  have qx_15 : x_15.toInt = x_3.toInt := by rw [Qx_15]
  obtain ⟨v_22, v_23, v_24, v_25, v_26, v_27, v_28, v_29, v_30, v_31, v_32, v_33, v_34, v_35, v_36, v_37, v_38, v_39, v_40, v_41, v_42, v_43, hr_21, -⟩ := wg_12 hWF Tu
  have ht10 := fo_ty hWF (wt_11 hG Tx).2.2.2.2.2.1
  refine py_calli hw (va_runV (As := [.int x_15]) (rest := []) G0 (c_X12_hungry l E G L f H_6.size u x_15 hG hWF Tu) (cwV 1 G0.2.2.2.2 g_L_law_X12_hungry_131 rfl rfl rfl (by decide +kernel) ⟨(Nat.le_of_ble_eq_true rfl), (Nat.le_of_ble_eq_true rfl)⟩) (py_preV hw (C := RX12) (T := TX12) (N := 54) rfl hr_21) rfl rfl hl.1 rfl (lv_room (Nat.le_of_ble_eq_true rfl)) dL_law_1041 ⟨rm_c (by omega), rm_s (by omega)⟩) (fun r_20 L_16 f_17 H_18 locs hp_19 hw => ?_)
  obtain ⟨rfl, rfl⟩ := hp_19
  refine lv_pop G0.1 G0.2.1 dL_law_1044 rfl ?_
  refine lv_goto (tgt := 1321) G0.1 G0.2.1 dL_law_1045 (by decide) ?_
  refine W.widen (k := C + 8) (n := S + 256) (by omega) (by omega) ?_
  exact kk _ _ _ _ ls ⟨G, gb, nb, hG, hWF, Tx, Tu, To, hGI, hGM, hTI, hTY⟩ hw (lv_sub hl [0, 1, 2, 3, 4] rfl)
set_option maxHeartbeats 4000000 in
set_option maxRecDepth 100000 in
theorem lc_25 {p : Program} {e : Env} {s : State} {m : MethodId} {below : List Frame} {meth : Method} {c : Code} (l : Launch) (hst : l.stackTraces = false) {b N : Nat} {xs : Nat → Int32} (C0 : lw_At p s m meth c b N xs) (G0 : CallFix p m c cL_law 7 s #[Value.ref b] w_L_law RL) (hN : N ≤ 3072) {E : py_E} {L : List Nat} {f : py_F} {H : Heap} {locs : List Loc} (hw : py_W E (fun q : Nat => s.heap.size ≤ q) s L f H locs) {x u o : Nat} (hLW : LW E L f x u o) {i : Int32} (hi0 : 0 ≤ i.toInt) (hiN : i.toInt + 6 ≤ N) {C S : Nat} (hC : C + 8 ≤ 601024) (hS : S + 256 ≤ 7293034) {ls : Array Slot} (hl : lv_has ls 7 [(4, .int i), (3, .ref o), (2, .ref u), (1, .ref x), (0, .ref b)]) (kk : ∀ (L1 : List Nat) (f1 : py_F) (H1 : Heap) (locs1 : List Loc) (ls1 : Array Slot), LW E L1 f1 x u o → py_W E (fun q : Nat => s.heap.size ≤ q) s L1 f1 H1 locs1 → lv_has ls1 7 [(4, .int i), (3, .ref o), (2, .ref u), (1, .ref x), (0, .ref b)] → W p l e room_1 s m #[Value.ref b] below meth c H1 locs1 (C + 8) (S + 256) (lw_Z below #[Value.ref b] s) (F0 m 1321 ls1 [])) : W p l e room_1 s m #[Value.ref b] below meth c H locs (C) (S) (lw_Z below #[Value.ref b] s) (F0 m 1048 ls []) := by
  obtain ⟨hx, hb, hr, hml, hown, hts, hX, hbl, hlocks, hgv⟩ := id C0
  have hbA : ¬ (fun q : Nat => s.heap.size ≤ q) b := Nat.not_le.mpr hbl
  have kcm1 : (-1 : Int32).toInt = -1 := rfl
  have kc0 : (0 : Int32).toInt = 0 := rfl
  have kc1 : (1 : Int32).toInt = 1 := rfl
  obtain ⟨G, gb, nb, hG, hWF, Tx, Tu, To, hGI, hGM, hTI, hTY⟩ := hLW
  refine lv_aload_n G0.1 G0.2.1 dL_law_1048 rfl (lv_at hl 3 rfl) ?_
  refine lv_aload_n G0.1 G0.2.1 dL_law_1049 rfl (lv_at hl 4 rfl) ?_
  refine lv_iload G0.1 G0.2.1 dL_law_1050 (lv_at hl 0 rfl) ?_
  refine lv_iconst (v := 1) G0.1 G0.2.1 dL_law_1052 (by decide) ?_
  refine lv_iadd G0.1 G0.2.1 dL_law_1053 ?_
  refine lv_topi (fun x_1 ex_1 => ?_)
  first | have tx_1 := ti_add ex_1 (by omega) (by omega) | skip
  have rg_2 : vp_in x_1 N := ti_in (by omega) (by omega)
  refine va_sld G0.1 G0.2.1 hX hbl hbA hw.2.2.2.1 rg_2 dL_law_1054 ?_
  refine lv_topi (fun x_3 ex_3 => ?_)
  obtain ⟨v_10, v_11, v_12, hr_9, -⟩ := wg_11 hWF Tx
  have ht10 := fo_ty hWF (wt_11 hG Tx).2.2.2.2.2.1
  refine py_calli hw (va_runV (As := [.int x_3]) (rest := []) G0 (c_X11_rank l E G L f H.size x x_3 hG hWF Tx) (cwV 1 G0.2.2.2.2 g_L_law_X11_rank_132 rfl rfl rfl (by decide +kernel) ⟨(Nat.le_of_ble_eq_true rfl), (Nat.le_of_ble_eq_true rfl)⟩) (py_preV hw (C := RX11) (T := TX11) (N := 16) rfl hr_9) rfl rfl hl.1 rfl (lv_room (Nat.le_of_ble_eq_true rfl)) dL_law_1055 ⟨rm_c (by omega), rm_s (by omega)⟩) (fun r_8 L_4 f_5 H_6 locs hp_7 hw => ?_)
  obtain ⟨rfl, rfl⟩ := hp_7
  refine lv_pop G0.1 G0.2.1 dL_law_1058 rfl ?_
  refine lv_aload_n G0.1 G0.2.1 dL_law_1059 rfl (lv_at hl 2 rfl) ?_
  refine lv_aload_n G0.1 G0.2.1 dL_law_1060 rfl (lv_at hl 4 rfl) ?_
  refine lv_iload G0.1 G0.2.1 dL_law_1061 (lv_at hl 0 rfl) ?_
  refine lv_iconst (v := 1) G0.1 G0.2.1 dL_law_1063 (by decide) ?_
  refine lv_iadd G0.1 G0.2.1 dL_law_1064 ?_
  refine lv_topi (fun x_13 ex_13 => ?_)
  first | have tx_13 := ti_add ex_13 (by omega) (by omega) | skip
  have rg_14 : vp_in x_13 N := ti_in (by omega) (by omega)
  refine va_sld G0.1 G0.2.1 hX hbl hbA hw.2.2.2.1 rg_14 dL_law_1065 ?_
  refine lv_topi (fun x_15 ex_15 => ?_)
  have Qx_15 : x_15 = x_3 := by rw [ex_15, ex_3, ex_13, ex_1]
  have qx_15 : x_15.toInt = x_3.toInt := by rw [Qx_15]
  obtain ⟨v_22, v_23, v_24, v_25, v_26, v_27, v_28, v_29, v_30, v_31, v_32, v_33, v_34, v_35, v_36, v_37, v_38, v_39, v_40, v_41, v_42, v_43, hr_21, -⟩ := wg_12 hWF Tu
  have ht10 := fo_ty hWF (wt_11 hG Tx).2.2.2.2.2.1
  refine py_calli hw (va_runV (As := [.int x_15]) (rest := []) G0 (c_X12_rank l E G L f H_6.size u x_15 hG hWF Tu) (cwV 1 G0.2.2.2.2 g_L_law_X12_rank_135 rfl rfl rfl (by decide +kernel) ⟨(Nat.le_of_ble_eq_true rfl), (Nat.le_of_ble_eq_true rfl)⟩) (py_preV hw (C := RX12) (T := TX12) (N := 54) rfl hr_21) rfl rfl hl.1 rfl (lv_room (Nat.le_of_ble_eq_true rfl)) dL_law_1066 ⟨rm_c (by omega), rm_s (by omega)⟩) (fun r_20 L_16 f_17 H_18 locs hp_19 hw => ?_)
  obtain ⟨rfl, rfl⟩ := hp_19
  refine lv_pop G0.1 G0.2.1 dL_law_1069 rfl ?_
  refine lv_goto (tgt := 1321) G0.1 G0.2.1 dL_law_1070 (by decide) ?_
  refine W.widen (k := C + 8) (n := S + 256) (by omega) (by omega) ?_
  exact kk _ _ _ _ ls ⟨G, gb, nb, hG, hWF, Tx, Tu, To, hGI, hGM, hTI, hTY⟩ hw (lv_sub hl [0, 1, 2, 3, 4] rfl)
set_option maxHeartbeats 4000000 in
set_option maxRecDepth 100000 in
theorem lc_26 {p : Program} {e : Env} {s : State} {m : MethodId} {below : List Frame} {meth : Method} {c : Code} (l : Launch) (hst : l.stackTraces = false) {b N : Nat} {xs : Nat → Int32} (C0 : lw_At p s m meth c b N xs) (G0 : CallFix p m c cL_law 7 s #[Value.ref b] w_L_law RL) (hN : N ≤ 3072) {E : py_E} {L : List Nat} {f : py_F} {H : Heap} {locs : List Loc} (hw : py_W E (fun q : Nat => s.heap.size ≤ q) s L f H locs) {x u o : Nat} (hLW : LW E L f x u o) {i : Int32} (hi0 : 0 ≤ i.toInt) (hiN : i.toInt + 6 ≤ N) {C S : Nat} (hC : C + 8 ≤ 601024) (hS : S + 256 ≤ 7293034) {ls : Array Slot} (hl : lv_has ls 7 [(4, .int i), (3, .ref o), (2, .ref u), (1, .ref x), (0, .ref b)]) (kk : ∀ (L1 : List Nat) (f1 : py_F) (H1 : Heap) (locs1 : List Loc) (ls1 : Array Slot), LW E L1 f1 x u o → py_W E (fun q : Nat => s.heap.size ≤ q) s L1 f1 H1 locs1 → lv_has ls1 7 [(4, .int i), (3, .ref o), (2, .ref u), (1, .ref x), (0, .ref b)] → W p l e room_1 s m #[Value.ref b] below meth c H1 locs1 (C + 8) (S + 256) (lw_Z below #[Value.ref b] s) (F0 m 1321 ls1 [])) : W p l e room_1 s m #[Value.ref b] below meth c H locs (C) (S) (lw_Z below #[Value.ref b] s) (F0 m 1073 ls []) := by
  obtain ⟨hx, hb, hr, hml, hown, hts, hX, hbl, hlocks, hgv⟩ := id C0
  have hbA : ¬ (fun q : Nat => s.heap.size ≤ q) b := Nat.not_le.mpr hbl
  have kcm1 : (-1 : Int32).toInt = -1 := rfl
  have kc0 : (0 : Int32).toInt = 0 := rfl
  have kc1 : (1 : Int32).toInt = 1 := rfl
  have kc2 : (2 : Int32).toInt = 2 := rfl
  have kc3 : (3 : Int32).toInt = 3 := rfl
  obtain ⟨G, gb, nb, hG, hWF, Tx, Tu, To, hGI, hGM, hTI, hTY⟩ := hLW
  refine lv_aload_n G0.1 G0.2.1 dL_law_1073 rfl (lv_at hl 3 rfl) ?_
  refine lv_aload_n G0.1 G0.2.1 dL_law_1074 rfl (lv_at hl 4 rfl) ?_
  refine lv_iload G0.1 G0.2.1 dL_law_1075 (lv_at hl 0 rfl) ?_
  refine lv_iconst (v := 1) G0.1 G0.2.1 dL_law_1077 (by decide) ?_
  refine lv_iadd G0.1 G0.2.1 dL_law_1078 ?_
  refine lv_topi (fun x_1 ex_1 => ?_)
  first | have tx_1 := ti_add ex_1 (by omega) (by omega) | skip
  have rg_2 : vp_in x_1 N := ti_in (by omega) (by omega)
  refine va_sld G0.1 G0.2.1 hX hbl hbA hw.2.2.2.1 rg_2 dL_law_1079 ?_
  refine lv_topi (fun x_3 ex_3 => ?_)
  refine lv_aload_n G0.1 G0.2.1 dL_law_1080 rfl (lv_at hl 4 rfl) ?_
  refine lv_iload G0.1 G0.2.1 dL_law_1081 (lv_at hl 0 rfl) ?_
  refine lv_iconst (v := 2) G0.1 G0.2.1 dL_law_1083 (by decide) ?_
  refine lv_iadd G0.1 G0.2.1 dL_law_1084 ?_
  refine lv_topi (fun x_4 ex_4 => ?_)
  first | have tx_4 := ti_add ex_4 (by omega) (by omega) | skip
  have rg_5 : vp_in x_4 N := ti_in (by omega) (by omega)
  refine va_sld G0.1 G0.2.1 hX hbl hbA hw.2.2.2.1 rg_5 dL_law_1085 ?_
  refine lv_topi (fun x_6 ex_6 => ?_)
  refine lv_aload_n G0.1 G0.2.1 dL_law_1086 rfl (lv_at hl 4 rfl) ?_
  refine lv_iload G0.1 G0.2.1 dL_law_1087 (lv_at hl 0 rfl) ?_
  refine lv_iconst (v := 3) G0.1 G0.2.1 dL_law_1089 (by decide) ?_
  refine lv_iadd G0.1 G0.2.1 dL_law_1090 ?_
  refine lv_topi (fun x_7 ex_7 => ?_)
  first | have tx_7 := ti_add ex_7 (by omega) (by omega) | skip
  have rg_8 : vp_in x_7 N := ti_in (by omega) (by omega)
  refine va_sld G0.1 G0.2.1 hX hbl hbA hw.2.2.2.1 rg_8 dL_law_1091 ?_
  refine lv_topi (fun x_9 ex_9 => ?_)
  obtain ⟨v_16, v_17, v_18, hr_15, -⟩ := wg_11 hWF Tx
  have ht10 := fo_ty hWF (wt_11 hG Tx).2.2.2.2.2.1
  refine py_calli hw (va_runV (As := [.int x_3, .int x_6, .int x_9]) (rest := []) G0 (c_X11_met l E G L f H.size x x_3 x_6 x_9 hG hWF Tx) (cwV 3 G0.2.2.2.2 g_L_law_X11_met_136 rfl rfl rfl (by decide +kernel) ⟨(Nat.le_of_ble_eq_true rfl), (Nat.le_of_ble_eq_true rfl)⟩) (py_preV hw (C := RX11) (T := TX11) (N := 16) rfl hr_15) rfl rfl hl.1 rfl (lv_room (Nat.le_of_ble_eq_true rfl)) dL_law_1092 ⟨rm_c (by omega), rm_s (by omega)⟩) (fun r_14 L_10 f_11 H_12 locs hp_13 hw => ?_)
  obtain ⟨rfl, rfl⟩ := hp_13
  refine lv_pop G0.1 G0.2.1 dL_law_1095 rfl ?_
  refine lv_aload_n G0.1 G0.2.1 dL_law_1096 rfl (lv_at hl 2 rfl) ?_
  refine lv_aload_n G0.1 G0.2.1 dL_law_1097 rfl (lv_at hl 4 rfl) ?_
  refine lv_iload G0.1 G0.2.1 dL_law_1098 (lv_at hl 0 rfl) ?_
  refine lv_iconst (v := 1) G0.1 G0.2.1 dL_law_1100 (by decide) ?_
  refine lv_iadd G0.1 G0.2.1 dL_law_1101 ?_
  refine lv_topi (fun x_19 ex_19 => ?_)
  first | have tx_19 := ti_add ex_19 (by omega) (by omega) | skip
  have rg_20 : vp_in x_19 N := ti_in (by omega) (by omega)
  refine va_sld G0.1 G0.2.1 hX hbl hbA hw.2.2.2.1 rg_20 dL_law_1102 ?_
  refine lv_topi (fun x_21 ex_21 => ?_)
  have Qx_21 : x_21 = x_3 := by rw [ex_21, ex_3, ex_19, ex_1]
  have qx_21 : x_21.toInt = x_3.toInt := by rw [Qx_21]
  refine lv_aload_n G0.1 G0.2.1 dL_law_1103 rfl (lv_at hl 4 rfl) ?_
  refine lv_iload G0.1 G0.2.1 dL_law_1104 (lv_at hl 0 rfl) ?_
  refine lv_iconst (v := 2) G0.1 G0.2.1 dL_law_1106 (by decide) ?_
  refine lv_iadd G0.1 G0.2.1 dL_law_1107 ?_
  refine lv_topi (fun x_22 ex_22 => ?_)
  first | have tx_22 := ti_add ex_22 (by omega) (by omega) | skip
  have rg_23 : vp_in x_22 N := ti_in (by omega) (by omega)
  refine va_sld G0.1 G0.2.1 hX hbl hbA hw.2.2.2.1 rg_23 dL_law_1108 ?_
  refine lv_topi (fun x_24 ex_24 => ?_)
  have Qx_24 : x_24 = x_6 := by rw [ex_24, ex_6, ex_22, ex_4]
  have qx_24 : x_24.toInt = x_6.toInt := by rw [Qx_24]
  refine lv_aload_n G0.1 G0.2.1 dL_law_1109 rfl (lv_at hl 4 rfl) ?_
  refine lv_iload G0.1 G0.2.1 dL_law_1110 (lv_at hl 0 rfl) ?_
  refine lv_iconst (v := 3) G0.1 G0.2.1 dL_law_1112 (by decide) ?_
  refine lv_iadd G0.1 G0.2.1 dL_law_1113 ?_
  refine lv_topi (fun x_25 ex_25 => ?_)
  first | have tx_25 := ti_add ex_25 (by omega) (by omega) | skip
  have rg_26 : vp_in x_25 N := ti_in (by omega) (by omega)
  refine va_sld G0.1 G0.2.1 hX hbl hbA hw.2.2.2.1 rg_26 dL_law_1114 ?_
  refine lv_topi (fun x_27 ex_27 => ?_)
  have Qx_27 : x_27 = x_9 := by rw [ex_27, ex_9, ex_25, ex_7]
  have qx_27 : x_27.toInt = x_9.toInt := by rw [Qx_27]
  obtain ⟨v_34, v_35, v_36, v_37, v_38, v_39, v_40, v_41, v_42, v_43, v_44, v_45, v_46, v_47, v_48, v_49, v_50, v_51, v_52, v_53, v_54, v_55, hr_33, -⟩ := wg_12 hWF Tu
  have ht10 := fo_ty hWF (wt_11 hG Tx).2.2.2.2.2.1
  refine py_calli hw (va_runV (As := [.int x_21, .int x_24, .int x_27]) (rest := []) G0 (c_X12_met l E G L f H_12.size u x_21 x_24 x_27 hG hWF Tu) (cwV 3 G0.2.2.2.2 g_L_law_X12_met_139 rfl rfl rfl (by decide +kernel) ⟨(Nat.le_of_ble_eq_true rfl), (Nat.le_of_ble_eq_true rfl)⟩) (py_preV hw (C := RX12) (T := TX12) (N := 54) rfl hr_33) rfl rfl hl.1 rfl (lv_room (Nat.le_of_ble_eq_true rfl)) dL_law_1115 ⟨rm_c (by omega), rm_s (by omega)⟩) (fun r_32 L_28 f_29 H_30 locs hp_31 hw => ?_)
  obtain ⟨rfl, rfl⟩ := hp_31
  refine lv_pop G0.1 G0.2.1 dL_law_1118 rfl ?_
  refine lv_goto (tgt := 1321) G0.1 G0.2.1 dL_law_1119 (by decide) ?_
  refine W.widen (k := C + 8) (n := S + 256) (by omega) (by omega) ?_
  exact kk _ _ _ _ ls ⟨G, gb, nb, hG, hWF, Tx, Tu, To, hGI, hGM, hTI, hTY⟩ hw (lv_sub hl [0, 1, 2, 3, 4] rfl)
set_option maxHeartbeats 4000000 in
set_option maxRecDepth 100000 in
theorem lc_27 {p : Program} {e : Env} {s : State} {m : MethodId} {below : List Frame} {meth : Method} {c : Code} (l : Launch) (hst : l.stackTraces = false) {b N : Nat} {xs : Nat → Int32} (C0 : lw_At p s m meth c b N xs) (G0 : CallFix p m c cL_law 7 s #[Value.ref b] w_L_law RL) (hN : N ≤ 3072) {E : py_E} {L : List Nat} {f : py_F} {H : Heap} {locs : List Loc} (hw : py_W E (fun q : Nat => s.heap.size ≤ q) s L f H locs) {x u o : Nat} (hLW : LW E L f x u o) {i : Int32} (hi0 : 0 ≤ i.toInt) (hiN : i.toInt + 6 ≤ N) {C S : Nat} (hC : C + 8 ≤ 601024) (hS : S + 256 ≤ 7293034) {ls : Array Slot} (hl : lv_has ls 7 [(4, .int i), (3, .ref o), (2, .ref u), (1, .ref x), (0, .ref b)]) (kk : ∀ (L1 : List Nat) (f1 : py_F) (H1 : Heap) (locs1 : List Loc) (ls1 : Array Slot), LW E L1 f1 x u o → py_W E (fun q : Nat => s.heap.size ≤ q) s L1 f1 H1 locs1 → lv_has ls1 7 [(4, .int i), (3, .ref o), (2, .ref u), (1, .ref x), (0, .ref b)] → W p l e room_1 s m #[Value.ref b] below meth c H1 locs1 (C + 8) (S + 256) (lw_Z below #[Value.ref b] s) (F0 m 1321 ls1 [])) : W p l e room_1 s m #[Value.ref b] below meth c H locs (C) (S) (lw_Z below #[Value.ref b] s) (F0 m 1122 ls []) := by
  obtain ⟨hx, hb, hr, hml, hown, hts, hX, hbl, hlocks, hgv⟩ := id C0
  have hbA : ¬ (fun q : Nat => s.heap.size ≤ q) b := Nat.not_le.mpr hbl
  have kcm1 : (-1 : Int32).toInt = -1 := rfl
  have kc0 : (0 : Int32).toInt = 0 := rfl
  have kc1 : (1 : Int32).toInt = 1 := rfl
  obtain ⟨G, gb, nb, hG, hWF, Tx, Tu, To, hGI, hGM, hTI, hTY⟩ := hLW
  refine lv_aload_n G0.1 G0.2.1 dL_law_1122 rfl (lv_at hl 3 rfl) ?_
  refine lv_aload_n G0.1 G0.2.1 dL_law_1123 rfl (lv_at hl 4 rfl) ?_
  refine lv_iload G0.1 G0.2.1 dL_law_1124 (lv_at hl 0 rfl) ?_
  refine lv_iconst (v := 1) G0.1 G0.2.1 dL_law_1126 (by decide) ?_
  refine lv_iadd G0.1 G0.2.1 dL_law_1127 ?_
  refine lv_topi (fun x_1 ex_1 => ?_)
  first | have tx_1 := ti_add ex_1 (by omega) (by omega) | skip
  have rg_2 : vp_in x_1 N := ti_in (by omega) (by omega)
  refine va_sld G0.1 G0.2.1 hX hbl hbA hw.2.2.2.1 rg_2 dL_law_1128 ?_
  refine lv_topi (fun x_3 ex_3 => ?_)
  obtain ⟨v_10, v_11, v_12, hr_9, -⟩ := wg_11 hWF Tx
  have ht10 := fo_ty hWF (wt_11 hG Tx).2.2.2.2.2.1
  refine py_calli hw (va_runV (As := [.int x_3]) (rest := []) G0 (c_X11_leap l E G L f H.size x x_3 hG hWF Tx) (cwV 1 G0.2.2.2.2 g_L_law_X11_leap_140 rfl rfl rfl (by decide +kernel) ⟨(Nat.le_of_ble_eq_true rfl), (Nat.le_of_ble_eq_true rfl)⟩) (py_preV hw (C := RX11) (T := TX11) (N := 16) rfl hr_9) rfl rfl hl.1 rfl (lv_room (Nat.le_of_ble_eq_true rfl)) dL_law_1129 ⟨rm_c (by omega), rm_s (by omega)⟩) (fun r_8 L_4 f_5 H_6 locs hp_7 hw => ?_)
  obtain ⟨rfl, rfl⟩ := hp_7
  refine lv_pop G0.1 G0.2.1 dL_law_1132 rfl ?_
  refine lv_aload_n G0.1 G0.2.1 dL_law_1133 rfl (lv_at hl 2 rfl) ?_
  refine lv_aload_n G0.1 G0.2.1 dL_law_1134 rfl (lv_at hl 4 rfl) ?_
  refine lv_iload G0.1 G0.2.1 dL_law_1135 (lv_at hl 0 rfl) ?_
  refine lv_iconst (v := 1) G0.1 G0.2.1 dL_law_1137 (by decide) ?_
  refine lv_iadd G0.1 G0.2.1 dL_law_1138 ?_
  refine lv_topi (fun x_13 ex_13 => ?_)
  first | have tx_13 := ti_add ex_13 (by omega) (by omega) | skip
  have rg_14 : vp_in x_13 N := ti_in (by omega) (by omega)
  refine va_sld G0.1 G0.2.1 hX hbl hbA hw.2.2.2.1 rg_14 dL_law_1139 ?_
  refine lv_topi (fun x_15 ex_15 => ?_)
  have Qx_15 : x_15 = x_3 := by rw [ex_15, ex_3, ex_13, ex_1]
  have qx_15 : x_15.toInt = x_3.toInt := by rw [Qx_15]
  obtain ⟨v_22, v_23, v_24, v_25, v_26, v_27, v_28, v_29, v_30, v_31, v_32, v_33, v_34, v_35, v_36, v_37, v_38, v_39, v_40, v_41, v_42, v_43, hr_21, -⟩ := wg_12 hWF Tu
  have ht10 := fo_ty hWF (wt_11 hG Tx).2.2.2.2.2.1
  refine py_calli hw (va_runV (As := [.int x_15]) (rest := []) G0 (c_X12_leap l E G L f H_6.size u x_15 hG hWF Tu) (cwV 1 G0.2.2.2.2 g_L_law_X12_leap_143 rfl rfl rfl (by decide +kernel) ⟨(Nat.le_of_ble_eq_true rfl), (Nat.le_of_ble_eq_true rfl)⟩) (py_preV hw (C := RX12) (T := TX12) (N := 54) rfl hr_21) rfl rfl hl.1 rfl (lv_room (Nat.le_of_ble_eq_true rfl)) dL_law_1140 ⟨rm_c (by omega), rm_s (by omega)⟩) (fun r_20 L_16 f_17 H_18 locs hp_19 hw => ?_)
  obtain ⟨rfl, rfl⟩ := hp_19
  refine lv_pop G0.1 G0.2.1 dL_law_1143 rfl ?_
  refine lv_goto (tgt := 1321) G0.1 G0.2.1 dL_law_1144 (by decide) ?_
  refine W.widen (k := C + 8) (n := S + 256) (by omega) (by omega) ?_
  exact kk _ _ _ _ ls ⟨G, gb, nb, hG, hWF, Tx, Tu, To, hGI, hGM, hTI, hTY⟩ hw (lv_sub hl [0, 1, 2, 3, 4] rfl)
set_option maxHeartbeats 4000000 in
set_option maxRecDepth 100000 in
theorem lc_28 {p : Program} {e : Env} {s : State} {m : MethodId} {below : List Frame} {meth : Method} {c : Code} (l : Launch) (hst : l.stackTraces = false) {b N : Nat} {xs : Nat → Int32} (C0 : lw_At p s m meth c b N xs) (G0 : CallFix p m c cL_law 7 s #[Value.ref b] w_L_law RL) (hN : N ≤ 3072) {E : py_E} {L : List Nat} {f : py_F} {H : Heap} {locs : List Loc} (hw : py_W E (fun q : Nat => s.heap.size ≤ q) s L f H locs) {x u o : Nat} (hLW : LW E L f x u o) {i : Int32} (hi0 : 0 ≤ i.toInt) (hiN : i.toInt + 6 ≤ N) {C S : Nat} (hC : C + 8 ≤ 601024) (hS : S + 256 ≤ 7293034) {ls : Array Slot} (hl : lv_has ls 7 [(4, .int i), (3, .ref o), (2, .ref u), (1, .ref x), (0, .ref b)]) (kk : ∀ (L1 : List Nat) (f1 : py_F) (H1 : Heap) (locs1 : List Loc) (ls1 : Array Slot), LW E L1 f1 x u o → py_W E (fun q : Nat => s.heap.size ≤ q) s L1 f1 H1 locs1 → lv_has ls1 7 [(4, .int i), (3, .ref o), (2, .ref u), (1, .ref x), (0, .ref b)] → W p l e room_1 s m #[Value.ref b] below meth c H1 locs1 (C + 8) (S + 256) (lw_Z below #[Value.ref b] s) (F0 m 1321 ls1 [])) : W p l e room_1 s m #[Value.ref b] below meth c H locs (C) (S) (lw_Z below #[Value.ref b] s) (F0 m 1147 ls []) := by
  obtain ⟨hx, hb, hr, hml, hown, hts, hX, hbl, hlocks, hgv⟩ := id C0
  have hbA : ¬ (fun q : Nat => s.heap.size ≤ q) b := Nat.not_le.mpr hbl
  have kcm1 : (-1 : Int32).toInt = -1 := rfl
  have kc0 : (0 : Int32).toInt = 0 := rfl
  have kc1 : (1 : Int32).toInt = 1 := rfl
  obtain ⟨G, gb, nb, hG, hWF, Tx, Tu, To, hGI, hGM, hTI, hTY⟩ := hLW
  refine lv_aload_n G0.1 G0.2.1 dL_law_1147 rfl (lv_at hl 3 rfl) ?_
  refine lv_aload_n G0.1 G0.2.1 dL_law_1148 rfl (lv_at hl 4 rfl) ?_
  refine lv_iload G0.1 G0.2.1 dL_law_1149 (lv_at hl 0 rfl) ?_
  refine lv_iconst (v := 1) G0.1 G0.2.1 dL_law_1151 (by decide) ?_
  refine lv_iadd G0.1 G0.2.1 dL_law_1152 ?_
  refine lv_topi (fun x_1 ex_1 => ?_)
  first | have tx_1 := ti_add ex_1 (by omega) (by omega) | skip
  have rg_2 : vp_in x_1 N := ti_in (by omega) (by omega)
  refine va_sld G0.1 G0.2.1 hX hbl hbA hw.2.2.2.1 rg_2 dL_law_1153 ?_
  refine lv_topi (fun x_3 ex_3 => ?_)
  obtain ⟨v_10, v_11, v_12, hr_9, -⟩ := wg_11 hWF Tx
  have ht10 := fo_ty hWF (wt_11 hG Tx).2.2.2.2.2.1
  refine py_calli hw (va_runV (As := [.int x_3]) (rest := []) G0 (c_X11_leanest l E G L f H.size x x_3 hG hWF Tx) (cwV 1 G0.2.2.2.2 g_L_law_X11_leanest_144 rfl rfl rfl (by decide +kernel) ⟨(Nat.le_of_ble_eq_true rfl), (Nat.le_of_ble_eq_true rfl)⟩) (py_preV hw (C := RX11) (T := TX11) (N := 16) rfl hr_9) rfl rfl hl.1 rfl (lv_room (Nat.le_of_ble_eq_true rfl)) dL_law_1154 ⟨rm_c (by omega), rm_s (by omega)⟩) (fun r_8 L_4 f_5 H_6 locs hp_7 hw => ?_)
  obtain ⟨rfl, rfl⟩ := hp_7
  refine lv_pop G0.1 G0.2.1 dL_law_1157 rfl ?_
  refine lv_aload_n G0.1 G0.2.1 dL_law_1158 rfl (lv_at hl 2 rfl) ?_
  refine lv_aload_n G0.1 G0.2.1 dL_law_1159 rfl (lv_at hl 4 rfl) ?_
  refine lv_iload G0.1 G0.2.1 dL_law_1160 (lv_at hl 0 rfl) ?_
  refine lv_iconst (v := 1) G0.1 G0.2.1 dL_law_1162 (by decide) ?_
  refine lv_iadd G0.1 G0.2.1 dL_law_1163 ?_
  refine lv_topi (fun x_13 ex_13 => ?_)
  first | have tx_13 := ti_add ex_13 (by omega) (by omega) | skip
  have rg_14 : vp_in x_13 N := ti_in (by omega) (by omega)
  refine va_sld G0.1 G0.2.1 hX hbl hbA hw.2.2.2.1 rg_14 dL_law_1164 ?_
  refine lv_topi (fun x_15 ex_15 => ?_)
  have Qx_15 : x_15 = x_3 := by rw [ex_15, ex_3, ex_13, ex_1]
  have qx_15 : x_15.toInt = x_3.toInt := by rw [Qx_15]
  obtain ⟨v_22, v_23, v_24, v_25, v_26, v_27, v_28, v_29, v_30, v_31, v_32, v_33, v_34, v_35, v_36, v_37, v_38, v_39, v_40, v_41, v_42, v_43, hr_21, -⟩ := wg_12 hWF Tu
  have ht10 := fo_ty hWF (wt_11 hG Tx).2.2.2.2.2.1
  refine py_calli hw (va_runV (As := [.int x_15]) (rest := []) G0 (c_X12_leanest l E G L f H_6.size u x_15 hG hWF Tu) (cwV 1 G0.2.2.2.2 g_L_law_X12_leanest_147 rfl rfl rfl (by decide +kernel) ⟨(Nat.le_of_ble_eq_true rfl), (Nat.le_of_ble_eq_true rfl)⟩) (py_preV hw (C := RX12) (T := TX12) (N := 54) rfl hr_21) rfl rfl hl.1 rfl (lv_room (Nat.le_of_ble_eq_true rfl)) dL_law_1165 ⟨rm_c (by omega), rm_s (by omega)⟩) (fun r_20 L_16 f_17 H_18 locs hp_19 hw => ?_)
  obtain ⟨rfl, rfl⟩ := hp_19
  refine lv_pop G0.1 G0.2.1 dL_law_1168 rfl ?_
  refine lv_goto (tgt := 1321) G0.1 G0.2.1 dL_law_1169 (by decide) ?_
  refine W.widen (k := C + 8) (n := S + 256) (by omega) (by omega) ?_
  exact kk _ _ _ _ ls ⟨G, gb, nb, hG, hWF, Tx, Tu, To, hGI, hGM, hTI, hTY⟩ hw (lv_sub hl [0, 1, 2, 3, 4] rfl)
set_option maxHeartbeats 4000000 in
set_option maxRecDepth 100000 in
theorem lc_29 {p : Program} {e : Env} {s : State} {m : MethodId} {below : List Frame} {meth : Method} {c : Code} (l : Launch) (hst : l.stackTraces = false) {b N : Nat} {xs : Nat → Int32} (C0 : lw_At p s m meth c b N xs) (G0 : CallFix p m c cL_law 7 s #[Value.ref b] w_L_law RL) (hN : N ≤ 3072) {E : py_E} {L : List Nat} {f : py_F} {H : Heap} {locs : List Loc} (hw : py_W E (fun q : Nat => s.heap.size ≤ q) s L f H locs) {x u o : Nat} (hLW : LW E L f x u o) {i : Int32} (hi0 : 0 ≤ i.toInt) (hiN : i.toInt + 6 ≤ N) {C S : Nat} (hC : C + 8 ≤ 601024) (hS : S + 256 ≤ 7293034) {ls : Array Slot} (hl : lv_has ls 7 [(4, .int i), (3, .ref o), (2, .ref u), (1, .ref x), (0, .ref b)]) (kk : ∀ (L1 : List Nat) (f1 : py_F) (H1 : Heap) (locs1 : List Loc) (ls1 : Array Slot), LW E L1 f1 x u o → py_W E (fun q : Nat => s.heap.size ≤ q) s L1 f1 H1 locs1 → lv_has ls1 7 [(4, .int i), (3, .ref o), (2, .ref u), (1, .ref x), (0, .ref b)] → W p l e room_1 s m #[Value.ref b] below meth c H1 locs1 (C + 8) (S + 256) (lw_Z below #[Value.ref b] s) (F0 m 1321 ls1 [])) : W p l e room_1 s m #[Value.ref b] below meth c H locs (C) (S) (lw_Z below #[Value.ref b] s) (F0 m 1172 ls []) := by
  obtain ⟨hx, hb, hr, hml, hown, hts, hX, hbl, hlocks, hgv⟩ := id C0
  have hbA : ¬ (fun q : Nat => s.heap.size ≤ q) b := Nat.not_le.mpr hbl
  have kcm1 : (-1 : Int32).toInt = -1 := rfl
  have kc0 : (0 : Int32).toInt = 0 := rfl
  have kc1 : (1 : Int32).toInt = 1 := rfl
  have kc2 : (2 : Int32).toInt = 2 := rfl
  obtain ⟨G, gb, nb, hG, hWF, Tx, Tu, To, hGI, hGM, hTI, hTY⟩ := hLW
  refine lv_aload_n G0.1 G0.2.1 dL_law_1172 rfl (lv_at hl 3 rfl) ?_
  refine lv_aload_n G0.1 G0.2.1 dL_law_1173 rfl (lv_at hl 4 rfl) ?_
  refine lv_iload G0.1 G0.2.1 dL_law_1174 (lv_at hl 0 rfl) ?_
  refine lv_iconst (v := 1) G0.1 G0.2.1 dL_law_1176 (by decide) ?_
  refine lv_iadd G0.1 G0.2.1 dL_law_1177 ?_
  refine lv_topi (fun x_1 ex_1 => ?_)
  first | have tx_1 := ti_add ex_1 (by omega) (by omega) | skip
  have rg_2 : vp_in x_1 N := ti_in (by omega) (by omega)
  refine va_sld G0.1 G0.2.1 hX hbl hbA hw.2.2.2.1 rg_2 dL_law_1178 ?_
  refine lv_topi (fun x_3 ex_3 => ?_)
  refine lv_aload_n G0.1 G0.2.1 dL_law_1179 rfl (lv_at hl 4 rfl) ?_
  refine lv_iload G0.1 G0.2.1 dL_law_1180 (lv_at hl 0 rfl) ?_
  refine lv_iconst (v := 2) G0.1 G0.2.1 dL_law_1182 (by decide) ?_
  refine lv_iadd G0.1 G0.2.1 dL_law_1183 ?_
  refine lv_topi (fun x_4 ex_4 => ?_)
  first | have tx_4 := ti_add ex_4 (by omega) (by omega) | skip
  have rg_5 : vp_in x_4 N := ti_in (by omega) (by omega)
  refine va_sld G0.1 G0.2.1 hX hbl hbA hw.2.2.2.1 rg_5 dL_law_1184 ?_
  refine lv_topi (fun x_6 ex_6 => ?_)
  obtain ⟨v_13, v_14, v_15, hr_12, -⟩ := wg_11 hWF Tx
  have ht10 := fo_ty hWF (wt_11 hG Tx).2.2.2.2.2.1
  refine py_calll hw (va_runV (As := [.int x_3, .int x_6]) (rest := []) G0 (c_X11_mean l E G L f H.size x x_3 x_6 hG hWF Tx hGI) (cwV 2 G0.2.2.2.2 g_L_law_X11_mean_148 rfl rfl rfl (by decide +kernel) ⟨(Nat.le_of_ble_eq_true rfl), (Nat.le_of_ble_eq_true rfl)⟩) (py_preV hw (C := RX11) (T := TX11) (N := 16) rfl hr_12) rfl rfl hl.1 rfl (lv_room (Nat.le_of_ble_eq_true rfl)) dL_law_1185 ⟨rm_c (by omega), rm_s (by omega)⟩) (fun r_11 L_7 f_8 H_9 locs hp_10 hw => ?_)
  obtain ⟨hWF, kp_16, hGI⟩ := hp_10
  have hGM := hGM.kps hG Tu kp_16 (LK.of (by decide)) (by decide)
  have hTY := hTY.cl hG Tx Tu kp_16 (by decide) (cls_kp hG Tx ht10 kp_16 (by decide)) (hy_same (kp_f kp_16 Tx (by decide) (by decide) (fun _ => by decide))).2
  have hTI := hTI.clx hG Tx Tu kp_16 (by decide)
  refine lv_pop2_2 G0.1 G0.2.1 dL_law_1188 rfl ?_
  refine lv_aload_n G0.1 G0.2.1 dL_law_1189 rfl (lv_at hl 2 rfl) ?_
  refine lv_aload_n G0.1 G0.2.1 dL_law_1190 rfl (lv_at hl 4 rfl) ?_
  refine lv_iload G0.1 G0.2.1 dL_law_1191 (lv_at hl 0 rfl) ?_
  refine lv_iconst (v := 1) G0.1 G0.2.1 dL_law_1193 (by decide) ?_
  refine lv_iadd G0.1 G0.2.1 dL_law_1194 ?_
  refine lv_topi (fun x_17 ex_17 => ?_)
  first | have tx_17 := ti_add ex_17 (by omega) (by omega) | skip
  have rg_18 : vp_in x_17 N := ti_in (by omega) (by omega)
  refine va_sld G0.1 G0.2.1 hX hbl hbA hw.2.2.2.1 rg_18 dL_law_1195 ?_
  refine lv_topi (fun x_19 ex_19 => ?_)
  have Qx_19 : x_19 = x_3 := by rw [ex_19, ex_3, ex_17, ex_1]
  have qx_19 : x_19.toInt = x_3.toInt := by rw [Qx_19]
  refine lv_aload_n G0.1 G0.2.1 dL_law_1196 rfl (lv_at hl 4 rfl) ?_
  refine lv_iload G0.1 G0.2.1 dL_law_1197 (lv_at hl 0 rfl) ?_
  refine lv_iconst (v := 2) G0.1 G0.2.1 dL_law_1199 (by decide) ?_
  refine lv_iadd G0.1 G0.2.1 dL_law_1200 ?_
  refine lv_topi (fun x_20 ex_20 => ?_)
  first | have tx_20 := ti_add ex_20 (by omega) (by omega) | skip
  have rg_21 : vp_in x_20 N := ti_in (by omega) (by omega)
  refine va_sld G0.1 G0.2.1 hX hbl hbA hw.2.2.2.1 rg_21 dL_law_1201 ?_
  refine lv_topi (fun x_22 ex_22 => ?_)
  have Qx_22 : x_22 = x_6 := by rw [ex_22, ex_6, ex_20, ex_4]
  have qx_22 : x_22.toInt = x_6.toInt := by rw [Qx_22]
  obtain ⟨v_29, v_30, v_31, v_32, v_33, v_34, v_35, v_36, v_37, v_38, v_39, v_40, v_41, v_42, v_43, v_44, v_45, v_46, v_47, v_48, v_49, v_50, hr_28, -⟩ := wg_12 hWF Tu
  have ht10 := fo_ty hWF (wt_11 hG Tx).2.2.2.2.2.1
  refine py_calll hw (va_runV (As := [.int x_19, .int x_22]) (rest := []) G0 (c_X12_mean l E G L_7 f_8 H_9.size u x_19 x_22 hG hWF Tu hGM) (cwV 2 G0.2.2.2.2 g_L_law_X12_mean_152 rfl rfl rfl (by decide +kernel) ⟨(Nat.le_of_ble_eq_true rfl), (Nat.le_of_ble_eq_true rfl)⟩) (py_preV hw (C := RX12) (T := TX12) (N := 54) rfl hr_28) rfl rfl hl.1 rfl (lv_room (Nat.le_of_ble_eq_true rfl)) dL_law_1202 ⟨rm_c (by omega), rm_s (by omega)⟩) (fun r_27 L_23 f_24 H_25 locs hp_26 hw => ?_)
  obtain ⟨hWF, kp_51, fkr_27⟩ := hp_26
  have hGI := hGI.kp hG Tx ht10 (rp_kp hG kp_51 (by decide) (by decide)) kp_51 (by decide)
  have hGM := hGM.kp hG Tu kp_51 fkr_27 (LK.of (by decide)) (by decide)
  have hTY := hTY.rf hG Tx ht10 kp_51 fkr_27 (by decide) (by decide)
  have hTI := hTI.rf hG Tx Tu kp_51 fkr_27 (by decide) (by decide)
  refine lv_pop2_2 G0.1 G0.2.1 dL_law_1205 rfl ?_
  refine lv_goto (tgt := 1321) G0.1 G0.2.1 dL_law_1206 (by decide) ?_
  refine W.widen (k := C + 8) (n := S + 256) (by omega) (by omega) ?_
  exact kk _ _ _ _ ls ⟨G, gb, nb, hG, hWF, Tx, Tu, To, hGI, hGM, hTI, hTY⟩ hw (lv_sub hl [0, 1, 2, 3, 4] rfl)
set_option maxHeartbeats 4000000 in
set_option maxRecDepth 100000 in
theorem lc_30 {p : Program} {e : Env} {s : State} {m : MethodId} {below : List Frame} {meth : Method} {c : Code} (l : Launch) (hst : l.stackTraces = false) {b N : Nat} {xs : Nat → Int32} (C0 : lw_At p s m meth c b N xs) (G0 : CallFix p m c cL_law 7 s #[Value.ref b] w_L_law RL) (hN : N ≤ 3072) {E : py_E} {L : List Nat} {f : py_F} {H : Heap} {locs : List Loc} (hw : py_W E (fun q : Nat => s.heap.size ≤ q) s L f H locs) {x u o : Nat} (hLW : LW E L f x u o) {i : Int32} (hi0 : 0 ≤ i.toInt) (hiN : i.toInt + 6 ≤ N) {C S : Nat} (hC : C + 8 ≤ 601024) (hS : S + 256 ≤ 7293034) {ls : Array Slot} (hl : lv_has ls 7 [(4, .int i), (3, .ref o), (2, .ref u), (1, .ref x), (0, .ref b)]) (kk : ∀ (L1 : List Nat) (f1 : py_F) (H1 : Heap) (locs1 : List Loc) (ls1 : Array Slot), LW E L1 f1 x u o → py_W E (fun q : Nat => s.heap.size ≤ q) s L1 f1 H1 locs1 → lv_has ls1 7 [(4, .int i), (3, .ref o), (2, .ref u), (1, .ref x), (0, .ref b)] → W p l e room_1 s m #[Value.ref b] below meth c H1 locs1 (C + 8) (S + 256) (lw_Z below #[Value.ref b] s) (F0 m 1321 ls1 [])) : W p l e room_1 s m #[Value.ref b] below meth c H locs (C) (S) (lw_Z below #[Value.ref b] s) (F0 m 1209 ls []) := by
  obtain ⟨hx, hb, hr, hml, hown, hts, hX, hbl, hlocks, hgv⟩ := id C0
  have hbA : ¬ (fun q : Nat => s.heap.size ≤ q) b := Nat.not_le.mpr hbl
  have kcm1 : (-1 : Int32).toInt = -1 := rfl
  have kc0 : (0 : Int32).toInt = 0 := rfl
  have kc1 : (1 : Int32).toInt = 1 := rfl
  have kc2 : (2 : Int32).toInt = 2 := rfl
  have kc3 : (3 : Int32).toInt = 3 := rfl
  have kc4 : (4 : Int32).toInt = 4 := rfl
  obtain ⟨G, gb, nb, hG, hWF, Tx, Tu, To, hGI, hGM, hTI, hTY⟩ := hLW
  refine lv_aload_n G0.1 G0.2.1 dL_law_1209 rfl (lv_at hl 3 rfl) ?_
  refine lv_aload_n G0.1 G0.2.1 dL_law_1210 rfl (lv_at hl 4 rfl) ?_
  refine lv_iload G0.1 G0.2.1 dL_law_1211 (lv_at hl 0 rfl) ?_
  refine lv_iconst (v := 1) G0.1 G0.2.1 dL_law_1213 (by decide) ?_
  refine lv_iadd G0.1 G0.2.1 dL_law_1214 ?_
  refine lv_topi (fun x_1 ex_1 => ?_)
  first | have tx_1 := ti_add ex_1 (by omega) (by omega) | skip
  have rg_2 : vp_in x_1 N := ti_in (by omega) (by omega)
  refine va_sld G0.1 G0.2.1 hX hbl hbA hw.2.2.2.1 rg_2 dL_law_1215 ?_
  refine lv_topi (fun x_3 ex_3 => ?_)
  refine lv_aload_n G0.1 G0.2.1 dL_law_1216 rfl (lv_at hl 4 rfl) ?_
  refine lv_iload G0.1 G0.2.1 dL_law_1217 (lv_at hl 0 rfl) ?_
  refine lv_iconst (v := 2) G0.1 G0.2.1 dL_law_1219 (by decide) ?_
  refine lv_iadd G0.1 G0.2.1 dL_law_1220 ?_
  refine lv_topi (fun x_4 ex_4 => ?_)
  first | have tx_4 := ti_add ex_4 (by omega) (by omega) | skip
  have rg_5 : vp_in x_4 N := ti_in (by omega) (by omega)
  refine va_sld G0.1 G0.2.1 hX hbl hbA hw.2.2.2.1 rg_5 dL_law_1221 ?_
  refine lv_topi (fun x_6 ex_6 => ?_)
  refine lv_aload_n G0.1 G0.2.1 dL_law_1222 rfl (lv_at hl 4 rfl) ?_
  refine lv_iload G0.1 G0.2.1 dL_law_1223 (lv_at hl 0 rfl) ?_
  refine lv_iconst (v := 3) G0.1 G0.2.1 dL_law_1225 (by decide) ?_
  refine lv_iadd G0.1 G0.2.1 dL_law_1226 ?_
  refine lv_topi (fun x_7 ex_7 => ?_)
  first | have tx_7 := ti_add ex_7 (by omega) (by omega) | skip
  have rg_8 : vp_in x_7 N := ti_in (by omega) (by omega)
  refine va_sld G0.1 G0.2.1 hX hbl hbA hw.2.2.2.1 rg_8 dL_law_1227 ?_
  refine lv_topi (fun x_9 ex_9 => ?_)
  refine lv_aload_n G0.1 G0.2.1 dL_law_1228 rfl (lv_at hl 4 rfl) ?_
  refine lv_iload G0.1 G0.2.1 dL_law_1229 (lv_at hl 0 rfl) ?_
  refine lv_iconst (v := 4) G0.1 G0.2.1 dL_law_1231 (by decide) ?_
  refine lv_iadd G0.1 G0.2.1 dL_law_1232 ?_
  refine lv_topi (fun x_10 ex_10 => ?_)
  first | have tx_10 := ti_add ex_10 (by omega) (by omega) | skip
  have rg_11 : vp_in x_10 N := ti_in (by omega) (by omega)
  refine va_sld G0.1 G0.2.1 hX hbl hbA hw.2.2.2.1 rg_11 dL_law_1233 ?_
  refine lv_topi (fun x_12 ex_12 => ?_)
  obtain ⟨v_19, v_20, v_21, hr_18, -⟩ := wg_11 hWF Tx
  have ht10 := fo_ty hWF (wt_11 hG Tx).2.2.2.2.2.1
  refine py_calli hw (va_runV (As := [.int x_3, .int x_6, .int x_9, .int x_12]) (rest := []) G0 (c_X11_advice l E G L f H.size x x_3 x_6 x_9 x_12 hG hWF Tx hGI) (cwV 4 G0.2.2.2.2 g_L_law_X11_advice_153 rfl rfl rfl (by decide +kernel) ⟨(Nat.le_of_ble_eq_true rfl), (Nat.le_of_ble_eq_true rfl)⟩) (py_preV hw (C := RX11) (T := TX11) (N := 16) rfl hr_18) rfl rfl hl.1 rfl (lv_room (Nat.le_of_ble_eq_true rfl)) dL_law_1234 ⟨rm_c (by omega), rm_s (by omega)⟩) (fun r_17 L_13 f_14 H_15 locs hp_16 hw => ?_)
  obtain ⟨en0r_17, hWF, kp_22, hGI⟩ := hp_16
  have hGM := hGM.kps hG Tu kp_22 (LK.of (by decide)) (by decide)
  have hTY := hTY.cl hG Tx Tu kp_22 (by decide) en0r_17 (hy_same (kp_f kp_22 Tx (by decide) (by decide) (fun _ => by decide))).2
  have hTI := hTI.clx hG Tx Tu kp_22 (by decide)
  refine lv_pop G0.1 G0.2.1 dL_law_1237 rfl ?_
  refine lv_aload_n G0.1 G0.2.1 dL_law_1238 rfl (lv_at hl 2 rfl) ?_
  refine lv_aload_n G0.1 G0.2.1 dL_law_1239 rfl (lv_at hl 4 rfl) ?_
  refine lv_iload G0.1 G0.2.1 dL_law_1240 (lv_at hl 0 rfl) ?_
  refine lv_iconst (v := 1) G0.1 G0.2.1 dL_law_1242 (by decide) ?_
  refine lv_iadd G0.1 G0.2.1 dL_law_1243 ?_
  refine lv_topi (fun x_23 ex_23 => ?_)
  first | have tx_23 := ti_add ex_23 (by omega) (by omega) | skip
  have rg_24 : vp_in x_23 N := ti_in (by omega) (by omega)
  refine va_sld G0.1 G0.2.1 hX hbl hbA hw.2.2.2.1 rg_24 dL_law_1244 ?_
  refine lv_topi (fun x_25 ex_25 => ?_)
  have Qx_25 : x_25 = x_3 := by rw [ex_25, ex_3, ex_23, ex_1]
  have qx_25 : x_25.toInt = x_3.toInt := by rw [Qx_25]
  refine lv_aload_n G0.1 G0.2.1 dL_law_1245 rfl (lv_at hl 4 rfl) ?_
  refine lv_iload G0.1 G0.2.1 dL_law_1246 (lv_at hl 0 rfl) ?_
  refine lv_iconst (v := 2) G0.1 G0.2.1 dL_law_1248 (by decide) ?_
  refine lv_iadd G0.1 G0.2.1 dL_law_1249 ?_
  refine lv_topi (fun x_26 ex_26 => ?_)
  first | have tx_26 := ti_add ex_26 (by omega) (by omega) | skip
  have rg_27 : vp_in x_26 N := ti_in (by omega) (by omega)
  refine va_sld G0.1 G0.2.1 hX hbl hbA hw.2.2.2.1 rg_27 dL_law_1250 ?_
  refine lv_topi (fun x_28 ex_28 => ?_)
  have Qx_28 : x_28 = x_6 := by rw [ex_28, ex_6, ex_26, ex_4]
  have qx_28 : x_28.toInt = x_6.toInt := by rw [Qx_28]
  refine lv_aload_n G0.1 G0.2.1 dL_law_1251 rfl (lv_at hl 4 rfl) ?_
  refine lv_iload G0.1 G0.2.1 dL_law_1252 (lv_at hl 0 rfl) ?_
  refine lv_iconst (v := 3) G0.1 G0.2.1 dL_law_1254 (by decide) ?_
  refine lv_iadd G0.1 G0.2.1 dL_law_1255 ?_
  refine lv_topi (fun x_29 ex_29 => ?_)
  first | have tx_29 := ti_add ex_29 (by omega) (by omega) | skip
  have rg_30 : vp_in x_29 N := ti_in (by omega) (by omega)
  refine va_sld G0.1 G0.2.1 hX hbl hbA hw.2.2.2.1 rg_30 dL_law_1256 ?_
  refine lv_topi (fun x_31 ex_31 => ?_)
  have Qx_31 : x_31 = x_9 := by rw [ex_31, ex_9, ex_29, ex_7]
  have qx_31 : x_31.toInt = x_9.toInt := by rw [Qx_31]
  refine lv_aload_n G0.1 G0.2.1 dL_law_1257 rfl (lv_at hl 4 rfl) ?_
  refine lv_iload G0.1 G0.2.1 dL_law_1258 (lv_at hl 0 rfl) ?_
  refine lv_iconst (v := 4) G0.1 G0.2.1 dL_law_1260 (by decide) ?_
  refine lv_iadd G0.1 G0.2.1 dL_law_1261 ?_
  refine lv_topi (fun x_32 ex_32 => ?_)
  first | have tx_32 := ti_add ex_32 (by omega) (by omega) | skip
  have rg_33 : vp_in x_32 N := ti_in (by omega) (by omega)
  refine va_sld G0.1 G0.2.1 hX hbl hbA hw.2.2.2.1 rg_33 dL_law_1262 ?_
  refine lv_topi (fun x_34 ex_34 => ?_)
  have Qx_34 : x_34 = x_12 := by rw [ex_34, ex_12, ex_32, ex_10]
  have qx_34 : x_34.toInt = x_12.toInt := by rw [Qx_34]
  obtain ⟨v_41, v_42, v_43, v_44, v_45, v_46, v_47, v_48, v_49, v_50, v_51, v_52, v_53, v_54, v_55, v_56, v_57, v_58, v_59, v_60, v_61, v_62, hr_40, -⟩ := wg_12 hWF Tu
  have ht10 := fo_ty hWF (wt_11 hG Tx).2.2.2.2.2.1
  refine py_calli hw (va_runV (As := [.int x_25, .int x_28, .int x_31, .int x_34]) (rest := []) G0 (c_X12_advice l E G L_13 f_14 H_15.size u x_25 x_28 x_31 x_34 hG hWF Tu hGM) (cwV 4 G0.2.2.2.2 g_L_law_X12_advice_156 rfl rfl rfl (by decide +kernel) ⟨(Nat.le_of_ble_eq_true rfl), (Nat.le_of_ble_eq_true rfl)⟩) (py_preV hw (C := RX12) (T := TX12) (N := 54) rfl hr_40) rfl rfl hl.1 rfl (lv_room (Nat.le_of_ble_eq_true rfl)) dL_law_1263 ⟨rm_c (by omega), rm_s (by omega)⟩) (fun r_39 L_35 f_36 H_37 locs hp_38 hw => ?_)
  obtain ⟨hWF, kp_63, fkr_39⟩ := hp_38
  have hGI := hGI.kp hG Tx ht10 (rp_kp hG kp_63 (by decide) (by decide)) kp_63 (by decide)
  have hGM := hGM.kp hG Tu kp_63 fkr_39 (LK.of (by decide)) (by decide)
  have hTY := hTY.rf hG Tx ht10 kp_63 fkr_39 (by decide) (by decide)
  have hTI := hTI.rf hG Tx Tu kp_63 fkr_39 (by decide) (by decide)
  refine lv_pop G0.1 G0.2.1 dL_law_1266 rfl ?_
  refine lv_goto (tgt := 1321) G0.1 G0.2.1 dL_law_1267 (by decide) ?_
  refine W.widen (k := C + 8) (n := S + 256) (by omega) (by omega) ?_
  exact kk _ _ _ _ ls ⟨G, gb, nb, hG, hWF, Tx, Tu, To, hGI, hGM, hTI, hTY⟩ hw (lv_sub hl [0, 1, 2, 3, 4] rfl)
set_option maxHeartbeats 4000000 in
set_option maxRecDepth 100000 in
theorem lc_31 {p : Program} {e : Env} {s : State} {m : MethodId} {below : List Frame} {meth : Method} {c : Code} (l : Launch) (hst : l.stackTraces = false) {b N : Nat} {xs : Nat → Int32} (C0 : lw_At p s m meth c b N xs) (G0 : CallFix p m c cL_law 7 s #[Value.ref b] w_L_law RL) (hN : N ≤ 3072) {E : py_E} {L : List Nat} {f : py_F} {H : Heap} {locs : List Loc} (hw : py_W E (fun q : Nat => s.heap.size ≤ q) s L f H locs) {x u o : Nat} (hLW : LW E L f x u o) {i : Int32} (hi0 : 0 ≤ i.toInt) (hiN : i.toInt + 6 ≤ N) {C S : Nat} (hC : C + 8 ≤ 601024) (hS : S + 256 ≤ 7293034) {ls : Array Slot} (hl : lv_has ls 7 [(4, .int i), (3, .ref o), (2, .ref u), (1, .ref x), (0, .ref b)]) (kk : ∀ (L1 : List Nat) (f1 : py_F) (H1 : Heap) (locs1 : List Loc) (ls1 : Array Slot), LW E L1 f1 x u o → py_W E (fun q : Nat => s.heap.size ≤ q) s L1 f1 H1 locs1 → lv_has ls1 7 [(4, .int i), (3, .ref o), (2, .ref u), (1, .ref x), (0, .ref b)] → W p l e room_1 s m #[Value.ref b] below meth c H1 locs1 (C + 8) (S + 256) (lw_Z below #[Value.ref b] s) (F0 m 1321 ls1 [])) : W p l e room_1 s m #[Value.ref b] below meth c H locs (C) (S) (lw_Z below #[Value.ref b] s) (F0 m 1270 ls []) := by
  obtain ⟨hx, hb, hr, hml, hown, hts, hX, hbl, hlocks, hgv⟩ := id C0
  have hbA : ¬ (fun q : Nat => s.heap.size ≤ q) b := Nat.not_le.mpr hbl
  have kcm1 : (-1 : Int32).toInt = -1 := rfl
  have kc0 : (0 : Int32).toInt = 0 := rfl
  have kc1 : (1 : Int32).toInt = 1 := rfl
  obtain ⟨G, gb, nb, hG, hWF, Tx, Tu, To, hGI, hGM, hTI, hTY⟩ := hLW
  refine lv_aload_n G0.1 G0.2.1 dL_law_1270 rfl (lv_at hl 3 rfl) ?_
  obtain ⟨v_7, v_8, v_9, hr_6, -⟩ := wg_11 hWF Tx
  have ht10 := fo_ty hWF (wt_11 hG Tx).2.2.2.2.2.1
  refine py_calli hw (va_runV (As := []) (rest := []) G0 (c_X11_image l E G L f H.size x hG hWF Tx hGI) (cwV 0 G0.2.2.2.2 g_L_law_X11_image_157 rfl rfl rfl (by decide +kernel) ⟨(Nat.le_of_ble_eq_true rfl), (Nat.le_of_ble_eq_true rfl)⟩) (py_preV hw (C := RX11) (T := TX11) (N := 16) rfl hr_6) rfl rfl hl.1 rfl (lv_room (Nat.le_of_ble_eq_true rfl)) dL_law_1271 ⟨rm_c (by omega), rm_s (by omega)⟩) (fun r_5 L_1 f_2 H_3 locs hp_4 hw => ?_)
  obtain ⟨en0r_5, en1r_5, en2r_5, hWF, kp_10, hGI⟩ := hp_4
  have hGM := hGM.kps hG Tu kp_10 (LK.of (by decide)) (by decide)
  obtain ⟨y0, y1, y2, y3, y4⟩ := hTY
  have yu : f_2 u = f u := kp_f kp_10 Tu (by decide) (by decide) (fun _ => by decide)
  have yu25 := mi_kp yu 25
  have yu29 := mi_kp yu 29
  have yu51 := mi_kp yu 51
  have yu53 := mi_kp yu 53
  have hTI := hTI.cl hG Tx Tu kp_10 (by decide) en0r_5
  refine lv_pop G0.1 G0.2.1 dL_law_1274 rfl ?_
  refine lv_aload_n G0.1 G0.2.1 dL_law_1275 rfl (lv_at hl 2 rfl) ?_
  obtain ⟨v_17, v_18, v_19, v_20, v_21, v_22, v_23, v_24, v_25, v_26, v_27, v_28, v_29, v_30, v_31, v_32, v_33, v_34, v_35, v_36, v_37, v_38, hr_16, -⟩ := wg_12 hWF Tu
  have ht10 := fo_ty hWF (wt_11 hG Tx).2.2.2.2.2.1
  refine py_calli hw (va_runV (As := []) (rest := []) G0 (c_X12_image l E G L_1 f_2 H_3.size u hG hWF Tu) (cwV 0 G0.2.2.2.2 g_L_law_X12_image_160 rfl rfl rfl (by decide +kernel) ⟨(Nat.le_of_ble_eq_true rfl), (Nat.le_of_ble_eq_true rfl)⟩) (py_preV hw (C := RX12) (T := TX12) (N := 54) rfl hr_16) rfl rfl hl.1 rfl (lv_room (Nat.le_of_ble_eq_true rfl)) dL_law_1276 ⟨rm_c (by omega), rm_s (by omega)⟩) (fun r_15 L_11 f_12 H_13 locs hp_14 hw => ?_)
  obtain ⟨en0r_15, hWF, kp_39, fkr_15⟩ := hp_14
  have hGI := hGI.kp hG Tx ht10 (rp_kp hG kp_39 (by decide) (by decide)) kp_39 (by decide)
  have hGM := hGM.kp hG Tu kp_39 fkr_15 (LK.of (by decide)) (by decide)
  have cy := cls_kp hG Tx ht10 kp_39 (by decide)
  have cm := (hy_same (kp_f kp_39 Tx (by decide) (by decide) (fun _ => by decide))).2
  have yk25 : mi f_12 u 25 = mi f_2 u 25 := fk_mi fkr_15 25 (by decide) (by decide)
  have yk29 : mi f_12 u 29 = mi f_2 u 29 := fk_mi fkr_15 29 (by decide) (by decide)
  have hre : r_5.toInt = r_15.toInt := by omega
  have hTY : TY G f_12 x u := by
    unfold TY
    exact ⟨by omega, by omega, by omega, by omega, by omega⟩
  have hTI := hTI.rf hG Tx Tu kp_39 fkr_15 (by decide) (by decide)
  refine lv_pop G0.1 G0.2.1 dL_law_1279 rfl ?_
  refine lv_goto (tgt := 1321) G0.1 G0.2.1 dL_law_1280 (by decide) ?_
  refine W.widen (k := C + 8) (n := S + 256) (by omega) (by omega) ?_
  exact kk _ _ _ _ ls ⟨G, gb, nb, hG, hWF, Tx, Tu, To, hGI, hGM, hTI, hTY⟩ hw (lv_sub hl [0, 1, 2, 3, 4] rfl)
set_option maxHeartbeats 4000000 in
set_option maxRecDepth 100000 in
theorem lc_32 {p : Program} {e : Env} {s : State} {m : MethodId} {below : List Frame} {meth : Method} {c : Code} (l : Launch) (hst : l.stackTraces = false) {b N : Nat} {xs : Nat → Int32} (C0 : lw_At p s m meth c b N xs) (G0 : CallFix p m c cL_law 7 s #[Value.ref b] w_L_law RL) (hN : N ≤ 3072) {E : py_E} {L : List Nat} {f : py_F} {H : Heap} {locs : List Loc} (hw : py_W E (fun q : Nat => s.heap.size ≤ q) s L f H locs) {x u o : Nat} (hLW : LW E L f x u o) {i : Int32} (hi0 : 0 ≤ i.toInt) (hiN : i.toInt + 6 ≤ N) {C S : Nat} (hC : C + 8 ≤ 601024) (hS : S + 256 ≤ 7293034) {ls : Array Slot} (hl : lv_has ls 7 [(4, .int i), (3, .ref o), (2, .ref u), (1, .ref x), (0, .ref b)]) (kk : ∀ (L1 : List Nat) (f1 : py_F) (H1 : Heap) (locs1 : List Loc) (ls1 : Array Slot), LW E L1 f1 x u o → py_W E (fun q : Nat => s.heap.size ≤ q) s L1 f1 H1 locs1 → lv_has ls1 7 [(4, .int i), (3, .ref o), (2, .ref u), (1, .ref x), (0, .ref b)] → W p l e room_1 s m #[Value.ref b] below meth c H1 locs1 (C + 8) (S + 256) (lw_Z below #[Value.ref b] s) (F0 m 1321 ls1 [])) : W p l e room_1 s m #[Value.ref b] below meth c H locs (C) (S) (lw_Z below #[Value.ref b] s) (F0 m 1283 ls []) := by
  obtain ⟨hx, hb, hr, hml, hown, hts, hX, hbl, hlocks, hgv⟩ := id C0
  have hbA : ¬ (fun q : Nat => s.heap.size ≤ q) b := Nat.not_le.mpr hbl
  have kcm1 : (-1 : Int32).toInt = -1 := rfl
  have kc0 : (0 : Int32).toInt = 0 := rfl
  have kc1 : (1 : Int32).toInt = 1 := rfl
  obtain ⟨G, gb, nb, hG, hWF, Tx, Tu, To, hGI, hGM, hTI, hTY⟩ := hLW
  refine lv_aload_n G0.1 G0.2.1 dL_law_1283 rfl (lv_at hl 3 rfl) ?_
  obtain ⟨v_7, v_8, v_9, hr_6, -⟩ := wg_11 hWF Tx
  have ht10 := fo_ty hWF (wt_11 hG Tx).2.2.2.2.2.1
  refine py_calli hw (va_runV (As := []) (rest := []) G0 (c_X11_back l E G L f H.size x hG hWF Tx hGI) (cwV 0 G0.2.2.2.2 g_L_law_X11_back_161 rfl rfl rfl (by decide +kernel) ⟨(Nat.le_of_ble_eq_true rfl), (Nat.le_of_ble_eq_true rfl)⟩) (py_preV hw (C := RX11) (T := TX11) (N := 16) rfl hr_6) rfl rfl hl.1 rfl (lv_room (Nat.le_of_ble_eq_true rfl)) dL_law_1284 ⟨rm_c (by omega), rm_s (by omega)⟩) (fun r_5 L_1 f_2 H_3 locs hp_4 hw => ?_)
  obtain ⟨en0r_5, en1r_5, hWF, kp_10, hGI⟩ := hp_4
  have hGM := hGM.kps hG Tu kp_10 (LK.of (by decide)) (by decide)
  obtain ⟨y0, y1, y2, y3, y4⟩ := hTY
  have yu : f_2 u = f u := kp_f kp_10 Tu (by decide) (by decide) (fun _ => by decide)
  have yu25 := mi_kp yu 25
  have yu29 := mi_kp yu 29
  have yu51 := mi_kp yu 51
  have yu53 := mi_kp yu 53
  have yhm := (hy_same (kp_f kp_10 Tx (by decide) (by decide) (fun _ => by decide))).2
  have hTI := hTI.clx hG Tx Tu kp_10 (by decide)
  refine lv_aload_n G0.1 G0.2.1 dL_law_1287 rfl (lv_at hl 2 rfl) ?_
  obtain ⟨v_17, v_18, v_19, v_20, v_21, v_22, v_23, v_24, v_25, v_26, v_27, v_28, v_29, v_30, v_31, v_32, v_33, v_34, v_35, v_36, v_37, v_38, hr_16, -⟩ := wg_12 hWF Tu
  have ht10 := fo_ty hWF (wt_11 hG Tx).2.2.2.2.2.1
  refine py_calli hw (va_runV (As := []) (rest := [.int r_5]) G0 (c_X12_back l E G L_1 f_2 H_3.size u hG hWF Tu) (cwV 0 G0.2.2.2.2 g_L_law_X12_back_164 rfl rfl rfl (by decide +kernel) ⟨(Nat.le_of_ble_eq_true rfl), (Nat.le_of_ble_eq_true rfl)⟩) (py_preV hw (C := RX12) (T := TX12) (N := 54) rfl hr_16) rfl rfl hl.1 rfl (lv_room (Nat.le_of_ble_eq_true rfl)) dL_law_1288 ⟨rm_c (by omega), rm_s (by omega)⟩) (fun r_15 L_11 f_12 H_13 locs hp_14 hw => ?_)
  obtain ⟨en0r_15, hWF, kp_39, fkr_15⟩ := hp_14
  have hGI := hGI.kp hG Tx ht10 (rp_kp hG kp_39 (by decide) (by decide)) kp_39 (by decide)
  have hGM := hGM.kp hG Tu kp_39 fkr_15 (LK.of (by decide)) (by decide)
  have cy := cls_kp hG Tx ht10 kp_39 (by decide)
  have cm := (hy_same (kp_f kp_39 Tx (by decide) (by decide) (fun _ => by decide))).2
  have yk25 : mi f_12 u 25 = mi f_2 u 25 := fk_mi fkr_15 25 (by decide) (by decide)
  have yk51 : mi f_12 u 51 = mi f_2 u 51 := fk_mi fkr_15 51 (by decide) (by decide)
  have yk53 : mi f_12 u 53 = mi f_2 u 53 := fk_mi fkr_15 53 (by decide) (by decide)
  have hre : r_5.toInt = r_15.toInt := by omega
  have hTY : TY G f_12 x u := by
    unfold TY
    exact ⟨by omega, by omega, by omega, by omega, by omega⟩
  have hTI := hTI.rf hG Tx Tu kp_39 fkr_15 (by decide) (by decide)
  refine lv_icmp_eq (tgt := 1321) G0.1 G0.2.1 dL_law_1291 (by decide) (fun c_40 => ?_) (fun c_40 => absurd (Int32.toInt_inj.mp (show r_5.toInt = r_15.toInt by omega)) c_40)
  refine W.widen (k := C + 8) (n := S + 256) (by omega) (by omega) ?_
  exact kk _ _ _ _ ls ⟨G, gb, nb, hG, hWF, Tx, Tu, To, hGI, hGM, hTI, hTY⟩ hw (lv_sub hl [0, 1, 2, 3, 4] rfl)
set_option maxHeartbeats 4000000 in
set_option maxRecDepth 100000 in
theorem lc_33 {p : Program} {e : Env} {s : State} {m : MethodId} {below : List Frame} {meth : Method} {c : Code} (l : Launch) (hst : l.stackTraces = false) {b N : Nat} {xs : Nat → Int32} (C0 : lw_At p s m meth c b N xs) (G0 : CallFix p m c cL_law 7 s #[Value.ref b] w_L_law RL) (hN : N ≤ 3072) {E : py_E} {L : List Nat} {f : py_F} {H : Heap} {locs : List Loc} (hw : py_W E (fun q : Nat => s.heap.size ≤ q) s L f H locs) {x u o : Nat} (hLW : LW E L f x u o) {i : Int32} (hi0 : 0 ≤ i.toInt) (hiN : i.toInt + 6 ≤ N) {C S : Nat} (hC : C + 8 ≤ 601024) (hS : S + 256 ≤ 7293034) {ls : Array Slot} (hl : lv_has ls 7 [(4, .int i), (3, .ref o), (2, .ref u), (1, .ref x), (0, .ref b)]) (kk : ∀ (L1 : List Nat) (f1 : py_F) (H1 : Heap) (locs1 : List Loc) (ls1 : Array Slot), LW E L1 f1 x u o → py_W E (fun q : Nat => s.heap.size ≤ q) s L1 f1 H1 locs1 → lv_has ls1 7 [(4, .int i), (3, .ref o), (2, .ref u), (1, .ref x), (0, .ref b)] → W p l e room_1 s m #[Value.ref b] below meth c H1 locs1 (C + 8) (S + 256) (lw_Z below #[Value.ref b] s) (F0 m 1321 ls1 [])) : W p l e room_1 s m #[Value.ref b] below meth c H locs (C) (S) (lw_Z below #[Value.ref b] s) (F0 m 1296 ls []) := by
  obtain ⟨hx, hb, hr, hml, hown, hts, hX, hbl, hlocks, hgv⟩ := id C0
  have hbA : ¬ (fun q : Nat => s.heap.size ≤ q) b := Nat.not_le.mpr hbl
  have kcm1 : (-1 : Int32).toInt = -1 := rfl
  have kc0 : (0 : Int32).toInt = 0 := rfl
  have kc1 : (1 : Int32).toInt = 1 := rfl
  obtain ⟨G, gb, nb, hG, hWF, Tx, Tu, To, hGI, hGM, hTI, hTY⟩ := hLW
  refine lv_aload_n G0.1 G0.2.1 dL_law_1296 rfl (lv_at hl 3 rfl) ?_
  refine lv_aload_n G0.1 G0.2.1 dL_law_1297 rfl (lv_at hl 4 rfl) ?_
  refine lv_iload G0.1 G0.2.1 dL_law_1298 (lv_at hl 0 rfl) ?_
  refine lv_iconst (v := 1) G0.1 G0.2.1 dL_law_1300 (by decide) ?_
  refine lv_iadd G0.1 G0.2.1 dL_law_1301 ?_
  refine lv_topi (fun x_1 ex_1 => ?_)
  first | have tx_1 := ti_add ex_1 (by omega) (by omega) | skip
  have rg_2 : vp_in x_1 N := ti_in (by omega) (by omega)
  refine va_sld G0.1 G0.2.1 hX hbl hbA hw.2.2.2.1 rg_2 dL_law_1302 ?_
  refine lv_topi (fun x_3 ex_3 => ?_)
  obtain ⟨v_10, v_11, v_12, hr_9, -⟩ := wg_11 hWF Tx
  have ht10 := fo_ty hWF (wt_11 hG Tx).2.2.2.2.2.1
  refine py_calli hw (va_runV (As := [.int x_3]) (rest := []) G0 (c_X11_count l E G L f H.size x x_3 hG hWF Tx) (cwV 1 G0.2.2.2.2 g_L_law_X11_count_165 rfl rfl rfl (by decide +kernel) ⟨(Nat.le_of_ble_eq_true rfl), (Nat.le_of_ble_eq_true rfl)⟩) (py_preV hw (C := RX11) (T := TX11) (N := 16) rfl hr_9) rfl rfl hl.1 rfl (lv_room (Nat.le_of_ble_eq_true rfl)) dL_law_1303 ⟨rm_c (by omega), rm_s (by omega)⟩) (fun r_8 L_4 f_5 H_6 locs hp_7 hw => ?_)
  obtain ⟨rfl, rfl⟩ := hp_7
  refine lv_pop G0.1 G0.2.1 dL_law_1306 rfl ?_
  refine lv_aload_n G0.1 G0.2.1 dL_law_1307 rfl (lv_at hl 2 rfl) ?_
  refine lv_aload_n G0.1 G0.2.1 dL_law_1308 rfl (lv_at hl 4 rfl) ?_
  refine lv_iload G0.1 G0.2.1 dL_law_1309 (lv_at hl 0 rfl) ?_
  refine lv_iconst (v := 1) G0.1 G0.2.1 dL_law_1311 (by decide) ?_
  refine lv_iadd G0.1 G0.2.1 dL_law_1312 ?_
  refine lv_topi (fun x_13 ex_13 => ?_)
  first | have tx_13 := ti_add ex_13 (by omega) (by omega) | skip
  have rg_14 : vp_in x_13 N := ti_in (by omega) (by omega)
  refine va_sld G0.1 G0.2.1 hX hbl hbA hw.2.2.2.1 rg_14 dL_law_1313 ?_
  refine lv_topi (fun x_15 ex_15 => ?_)
  have Qx_15 : x_15 = x_3 := by rw [ex_15, ex_3, ex_13, ex_1]
  have qx_15 : x_15.toInt = x_3.toInt := by rw [Qx_15]
  obtain ⟨v_22, v_23, v_24, v_25, v_26, v_27, v_28, v_29, v_30, v_31, v_32, v_33, v_34, v_35, v_36, v_37, v_38, v_39, v_40, v_41, v_42, v_43, hr_21, -⟩ := wg_12 hWF Tu
  have ht10 := fo_ty hWF (wt_11 hG Tx).2.2.2.2.2.1
  refine py_calli hw (va_runV (As := [.int x_15]) (rest := []) G0 (c_X12_count l E G L f H_6.size u x_15 hG hWF Tu) (cwV 1 G0.2.2.2.2 g_L_law_X12_count_168 rfl rfl rfl (by decide +kernel) ⟨(Nat.le_of_ble_eq_true rfl), (Nat.le_of_ble_eq_true rfl)⟩) (py_preV hw (C := RX12) (T := TX12) (N := 54) rfl hr_21) rfl rfl hl.1 rfl (lv_room (Nat.le_of_ble_eq_true rfl)) dL_law_1314 ⟨rm_c (by omega), rm_s (by omega)⟩) (fun r_20 L_16 f_17 H_18 locs hp_19 hw => ?_)
  obtain ⟨rfl, rfl⟩ := hp_19
  refine lv_pop G0.1 G0.2.1 dL_law_1317 rfl ?_
  refine lv_goto (tgt := 1321) G0.1 G0.2.1 dL_law_1318 (by decide) ?_
  refine W.widen (k := C + 8) (n := S + 256) (by omega) (by omega) ?_
  exact kk _ _ _ _ ls ⟨G, gb, nb, hG, hWF, Tx, Tu, To, hGI, hGM, hTI, hTY⟩ hw (lv_sub hl [0, 1, 2, 3, 4] rfl)
theorem sw_L_law_40 (x : Int32) : x = 0 ∨ x = 1 ∨ x = 2 ∨ x = 3 ∨ x = 4 ∨ x = 5 ∨ x = 6 ∨ x = 7 ∨ x = 8 ∨ x = 9 ∨ x = 10 ∨ x = 11 ∨ x = 12 ∨ x = 13 ∨ x = 14 ∨ x = 15 ∨ x = 16 ∨ x = 17 ∨ x = 18 ∨ x = 19 ∨ x = 20 ∨ x = 21 ∨ x = 22 ∨ x = 23 ∨ x = 24 ∨ x = 25 ∨ x = 26 ∨ x = 27 ∨ x = 28 ∨ x = 29 ∨ x = 30 ∨ x = 31 ∨ x = 32 ∨ x = 33 ∨ (x.toInt < 0 ∨ 33 < x.toInt) := by
  by_cases h0 : x = 0
  · exact Or.inl h0
  by_cases h1 : x = 1
  · exact Or.inr (Or.inl h1)
  by_cases h2 : x = 2
  · exact Or.inr (Or.inr (Or.inl h2))
  by_cases h3 : x = 3
  · exact Or.inr (Or.inr (Or.inr (Or.inl h3)))
  by_cases h4 : x = 4
  · exact Or.inr (Or.inr (Or.inr (Or.inr (Or.inl h4))))
  by_cases h5 : x = 5
  · exact Or.inr (Or.inr (Or.inr (Or.inr (Or.inr (Or.inl h5)))))
  by_cases h6 : x = 6
  · exact Or.inr (Or.inr (Or.inr (Or.inr (Or.inr (Or.inr (Or.inl h6))))))
  by_cases h7 : x = 7
  · exact Or.inr (Or.inr (Or.inr (Or.inr (Or.inr (Or.inr (Or.inr (Or.inl h7)))))))
  by_cases h8 : x = 8
  · exact Or.inr (Or.inr (Or.inr (Or.inr (Or.inr (Or.inr (Or.inr (Or.inr (Or.inl h8))))))))
  by_cases h9 : x = 9
  · exact Or.inr (Or.inr (Or.inr (Or.inr (Or.inr (Or.inr (Or.inr (Or.inr (Or.inr (Or.inl h9)))))))))
  by_cases h10 : x = 10
  · exact Or.inr (Or.inr (Or.inr (Or.inr (Or.inr (Or.inr (Or.inr (Or.inr (Or.inr (Or.inr (Or.inl h10))))))))))
  by_cases h11 : x = 11
  · exact Or.inr (Or.inr (Or.inr (Or.inr (Or.inr (Or.inr (Or.inr (Or.inr (Or.inr (Or.inr (Or.inr (Or.inl h11)))))))))))
  by_cases h12 : x = 12
  · exact Or.inr (Or.inr (Or.inr (Or.inr (Or.inr (Or.inr (Or.inr (Or.inr (Or.inr (Or.inr (Or.inr (Or.inr (Or.inl h12))))))))))))
  by_cases h13 : x = 13
  · exact Or.inr (Or.inr (Or.inr (Or.inr (Or.inr (Or.inr (Or.inr (Or.inr (Or.inr (Or.inr (Or.inr (Or.inr (Or.inr (Or.inl h13)))))))))))))
  by_cases h14 : x = 14
  · exact Or.inr (Or.inr (Or.inr (Or.inr (Or.inr (Or.inr (Or.inr (Or.inr (Or.inr (Or.inr (Or.inr (Or.inr (Or.inr (Or.inr (Or.inl h14))))))))))))))
  by_cases h15 : x = 15
  · exact Or.inr (Or.inr (Or.inr (Or.inr (Or.inr (Or.inr (Or.inr (Or.inr (Or.inr (Or.inr (Or.inr (Or.inr (Or.inr (Or.inr (Or.inr (Or.inl h15)))))))))))))))
  by_cases h16 : x = 16
  · exact Or.inr (Or.inr (Or.inr (Or.inr (Or.inr (Or.inr (Or.inr (Or.inr (Or.inr (Or.inr (Or.inr (Or.inr (Or.inr (Or.inr (Or.inr (Or.inr (Or.inl h16))))))))))))))))
  by_cases h17 : x = 17
  · exact Or.inr (Or.inr (Or.inr (Or.inr (Or.inr (Or.inr (Or.inr (Or.inr (Or.inr (Or.inr (Or.inr (Or.inr (Or.inr (Or.inr (Or.inr (Or.inr (Or.inr (Or.inl h17)))))))))))))))))
  by_cases h18 : x = 18
  · exact Or.inr (Or.inr (Or.inr (Or.inr (Or.inr (Or.inr (Or.inr (Or.inr (Or.inr (Or.inr (Or.inr (Or.inr (Or.inr (Or.inr (Or.inr (Or.inr (Or.inr (Or.inr (Or.inl h18))))))))))))))))))
  by_cases h19 : x = 19
  · exact Or.inr (Or.inr (Or.inr (Or.inr (Or.inr (Or.inr (Or.inr (Or.inr (Or.inr (Or.inr (Or.inr (Or.inr (Or.inr (Or.inr (Or.inr (Or.inr (Or.inr (Or.inr (Or.inr (Or.inl h19)))))))))))))))))))
  by_cases h20 : x = 20
  · exact Or.inr (Or.inr (Or.inr (Or.inr (Or.inr (Or.inr (Or.inr (Or.inr (Or.inr (Or.inr (Or.inr (Or.inr (Or.inr (Or.inr (Or.inr (Or.inr (Or.inr (Or.inr (Or.inr (Or.inr (Or.inl h20))))))))))))))))))))
  by_cases h21 : x = 21
  · exact Or.inr (Or.inr (Or.inr (Or.inr (Or.inr (Or.inr (Or.inr (Or.inr (Or.inr (Or.inr (Or.inr (Or.inr (Or.inr (Or.inr (Or.inr (Or.inr (Or.inr (Or.inr (Or.inr (Or.inr (Or.inr (Or.inl h21)))))))))))))))))))))
  by_cases h22 : x = 22
  · exact Or.inr (Or.inr (Or.inr (Or.inr (Or.inr (Or.inr (Or.inr (Or.inr (Or.inr (Or.inr (Or.inr (Or.inr (Or.inr (Or.inr (Or.inr (Or.inr (Or.inr (Or.inr (Or.inr (Or.inr (Or.inr (Or.inr (Or.inl h22))))))))))))))))))))))
  by_cases h23 : x = 23
  · exact Or.inr (Or.inr (Or.inr (Or.inr (Or.inr (Or.inr (Or.inr (Or.inr (Or.inr (Or.inr (Or.inr (Or.inr (Or.inr (Or.inr (Or.inr (Or.inr (Or.inr (Or.inr (Or.inr (Or.inr (Or.inr (Or.inr (Or.inr (Or.inl h23)))))))))))))))))))))))
  by_cases h24 : x = 24
  · exact Or.inr (Or.inr (Or.inr (Or.inr (Or.inr (Or.inr (Or.inr (Or.inr (Or.inr (Or.inr (Or.inr (Or.inr (Or.inr (Or.inr (Or.inr (Or.inr (Or.inr (Or.inr (Or.inr (Or.inr (Or.inr (Or.inr (Or.inr (Or.inr (Or.inl h24))))))))))))))))))))))))
  by_cases h25 : x = 25
  · exact Or.inr (Or.inr (Or.inr (Or.inr (Or.inr (Or.inr (Or.inr (Or.inr (Or.inr (Or.inr (Or.inr (Or.inr (Or.inr (Or.inr (Or.inr (Or.inr (Or.inr (Or.inr (Or.inr (Or.inr (Or.inr (Or.inr (Or.inr (Or.inr (Or.inr (Or.inl h25)))))))))))))))))))))))))
  by_cases h26 : x = 26
  · exact Or.inr (Or.inr (Or.inr (Or.inr (Or.inr (Or.inr (Or.inr (Or.inr (Or.inr (Or.inr (Or.inr (Or.inr (Or.inr (Or.inr (Or.inr (Or.inr (Or.inr (Or.inr (Or.inr (Or.inr (Or.inr (Or.inr (Or.inr (Or.inr (Or.inr (Or.inr (Or.inl h26))))))))))))))))))))))))))
  by_cases h27 : x = 27
  · exact Or.inr (Or.inr (Or.inr (Or.inr (Or.inr (Or.inr (Or.inr (Or.inr (Or.inr (Or.inr (Or.inr (Or.inr (Or.inr (Or.inr (Or.inr (Or.inr (Or.inr (Or.inr (Or.inr (Or.inr (Or.inr (Or.inr (Or.inr (Or.inr (Or.inr (Or.inr (Or.inr (Or.inl h27)))))))))))))))))))))))))))
  by_cases h28 : x = 28
  · exact Or.inr (Or.inr (Or.inr (Or.inr (Or.inr (Or.inr (Or.inr (Or.inr (Or.inr (Or.inr (Or.inr (Or.inr (Or.inr (Or.inr (Or.inr (Or.inr (Or.inr (Or.inr (Or.inr (Or.inr (Or.inr (Or.inr (Or.inr (Or.inr (Or.inr (Or.inr (Or.inr (Or.inr (Or.inl h28))))))))))))))))))))))))))))
  by_cases h29 : x = 29
  · exact Or.inr (Or.inr (Or.inr (Or.inr (Or.inr (Or.inr (Or.inr (Or.inr (Or.inr (Or.inr (Or.inr (Or.inr (Or.inr (Or.inr (Or.inr (Or.inr (Or.inr (Or.inr (Or.inr (Or.inr (Or.inr (Or.inr (Or.inr (Or.inr (Or.inr (Or.inr (Or.inr (Or.inr (Or.inr (Or.inl h29)))))))))))))))))))))))))))))
  by_cases h30 : x = 30
  · exact Or.inr (Or.inr (Or.inr (Or.inr (Or.inr (Or.inr (Or.inr (Or.inr (Or.inr (Or.inr (Or.inr (Or.inr (Or.inr (Or.inr (Or.inr (Or.inr (Or.inr (Or.inr (Or.inr (Or.inr (Or.inr (Or.inr (Or.inr (Or.inr (Or.inr (Or.inr (Or.inr (Or.inr (Or.inr (Or.inr (Or.inl h30))))))))))))))))))))))))))))))
  by_cases h31 : x = 31
  · exact Or.inr (Or.inr (Or.inr (Or.inr (Or.inr (Or.inr (Or.inr (Or.inr (Or.inr (Or.inr (Or.inr (Or.inr (Or.inr (Or.inr (Or.inr (Or.inr (Or.inr (Or.inr (Or.inr (Or.inr (Or.inr (Or.inr (Or.inr (Or.inr (Or.inr (Or.inr (Or.inr (Or.inr (Or.inr (Or.inr (Or.inr (Or.inl h31)))))))))))))))))))))))))))))))
  by_cases h32 : x = 32
  · exact Or.inr (Or.inr (Or.inr (Or.inr (Or.inr (Or.inr (Or.inr (Or.inr (Or.inr (Or.inr (Or.inr (Or.inr (Or.inr (Or.inr (Or.inr (Or.inr (Or.inr (Or.inr (Or.inr (Or.inr (Or.inr (Or.inr (Or.inr (Or.inr (Or.inr (Or.inr (Or.inr (Or.inr (Or.inr (Or.inr (Or.inr (Or.inr (Or.inl h32))))))))))))))))))))))))))))))))
  by_cases h33 : x = 33
  · exact Or.inr (Or.inr (Or.inr (Or.inr (Or.inr (Or.inr (Or.inr (Or.inr (Or.inr (Or.inr (Or.inr (Or.inr (Or.inr (Or.inr (Or.inr (Or.inr (Or.inr (Or.inr (Or.inr (Or.inr (Or.inr (Or.inr (Or.inr (Or.inr (Or.inr (Or.inr (Or.inr (Or.inr (Or.inr (Or.inr (Or.inr (Or.inr (Or.inr (Or.inl h33)))))))))))))))))))))))))))))))))
  have t0 := ti_ne h0
  have k0 : (0 : Int32).toInt = 0 := rfl
  have t1 := ti_ne h1
  have k1 : (1 : Int32).toInt = 1 := rfl
  have t2 := ti_ne h2
  have k2 : (2 : Int32).toInt = 2 := rfl
  have t3 := ti_ne h3
  have k3 : (3 : Int32).toInt = 3 := rfl
  have t4 := ti_ne h4
  have k4 : (4 : Int32).toInt = 4 := rfl
  have t5 := ti_ne h5
  have k5 : (5 : Int32).toInt = 5 := rfl
  have t6 := ti_ne h6
  have k6 : (6 : Int32).toInt = 6 := rfl
  have t7 := ti_ne h7
  have k7 : (7 : Int32).toInt = 7 := rfl
  have t8 := ti_ne h8
  have k8 : (8 : Int32).toInt = 8 := rfl
  have t9 := ti_ne h9
  have k9 : (9 : Int32).toInt = 9 := rfl
  have t10 := ti_ne h10
  have k10 : (10 : Int32).toInt = 10 := rfl
  have t11 := ti_ne h11
  have k11 : (11 : Int32).toInt = 11 := rfl
  have t12 := ti_ne h12
  have k12 : (12 : Int32).toInt = 12 := rfl
  have t13 := ti_ne h13
  have k13 : (13 : Int32).toInt = 13 := rfl
  have t14 := ti_ne h14
  have k14 : (14 : Int32).toInt = 14 := rfl
  have t15 := ti_ne h15
  have k15 : (15 : Int32).toInt = 15 := rfl
  have t16 := ti_ne h16
  have k16 : (16 : Int32).toInt = 16 := rfl
  have t17 := ti_ne h17
  have k17 : (17 : Int32).toInt = 17 := rfl
  have t18 := ti_ne h18
  have k18 : (18 : Int32).toInt = 18 := rfl
  have t19 := ti_ne h19
  have k19 : (19 : Int32).toInt = 19 := rfl
  have t20 := ti_ne h20
  have k20 : (20 : Int32).toInt = 20 := rfl
  have t21 := ti_ne h21
  have k21 : (21 : Int32).toInt = 21 := rfl
  have t22 := ti_ne h22
  have k22 : (22 : Int32).toInt = 22 := rfl
  have t23 := ti_ne h23
  have k23 : (23 : Int32).toInt = 23 := rfl
  have t24 := ti_ne h24
  have k24 : (24 : Int32).toInt = 24 := rfl
  have t25 := ti_ne h25
  have k25 : (25 : Int32).toInt = 25 := rfl
  have t26 := ti_ne h26
  have k26 : (26 : Int32).toInt = 26 := rfl
  have t27 := ti_ne h27
  have k27 : (27 : Int32).toInt = 27 := rfl
  have t28 := ti_ne h28
  have k28 : (28 : Int32).toInt = 28 := rfl
  have t29 := ti_ne h29
  have k29 : (29 : Int32).toInt = 29 := rfl
  have t30 := ti_ne h30
  have k30 : (30 : Int32).toInt = 30 := rfl
  have t31 := ti_ne h31
  have k31 : (31 : Int32).toInt = 31 := rfl
  have t32 := ti_ne h32
  have k32 : (32 : Int32).toInt = 32 := rfl
  have t33 := ti_ne h33
  have k33 : (33 : Int32).toInt = 33 := rfl
  exact Or.inr (Or.inr (Or.inr (Or.inr (Or.inr (Or.inr (Or.inr (Or.inr (Or.inr (Or.inr (Or.inr (Or.inr (Or.inr (Or.inr (Or.inr (Or.inr (Or.inr (Or.inr (Or.inr (Or.inr (Or.inr (Or.inr (Or.inr (Or.inr (Or.inr (Or.inr (Or.inr (Or.inr (Or.inr (Or.inr (Or.inr (Or.inr (Or.inr (Or.inr ((by omega)))))))))))))))))))))))))))))))))))
set_option maxHeartbeats 4000000 in
set_option maxRecDepth 100000 in
theorem law_loop {p : Program} {e : Env} {s : State} {m : MethodId} {below : List Frame} {meth : Method} {c : Code} (l : Launch) (hst : l.stackTraces = false) {b N : Nat} {xs : Nat → Int32} (C0 : lw_At p s m meth c b N xs) (G0 : CallFix p m c cL_law 7 s #[Value.ref b] w_L_law RL) (hN : N ≤ 3072) {E : py_E} (n : Nat) : ∀ (k : Nat) (L : List Nat) (f : py_F) (H : Heap) (locs : List Loc) (x u o : Nat) (i : Int32) (ls : Array Slot), n + k = 513 → k ≤ 512 → i.toInt = 6 * (k : Int) → LW E L f x u o → py_W E (fun q : Nat => s.heap.size ≤ q) s L f H locs → lv_has ls 7 [(4, .int i), (3, .ref o), (2, .ref u), (1, .ref x), (0, .ref b)] → W p l e room_1 s m #[Value.ref b] below meth c H locs (131 + 8 * k) (11321 + 256 * k) (lw_Z below #[Value.ref b] s) (F0 m 23 ls []) := by
  induction n with
  | zero => intro k L f H locs x u o i ls h1 h2
            omega
  | succ n ih =>
  intro k L f H locs x u o i ls hnk hk hi hLW hw hl
  obtain ⟨hx, hb, hr, hml, hown, hts, hX, hbl, hlocks, hgv⟩ := id C0
  have hbA : ¬ (fun q : Nat => s.heap.size ≤ q) b := Nat.not_le.mpr hbl
  have kcm1 : (-1 : Int32).toInt = -1 := rfl
  have kc0 : (0 : Int32).toInt = 0 := rfl
  have kc1 : (1 : Int32).toInt = 1 := rfl
  have kc2 : (2 : Int32).toInt = 2 := rfl
  have kc3 : (3 : Int32).toInt = 3 := rfl
  have kc4 : (4 : Int32).toInt = 4 := rfl
  have kc5 : (5 : Int32).toInt = 5 := rfl
  have kc6 : (6 : Int32).toInt = 6 := rfl
  have kc7 : (7 : Int32).toInt = 7 := rfl
  have kc8 : (8 : Int32).toInt = 8 := rfl
  have kc9 : (9 : Int32).toInt = 9 := rfl
  have kc10 : (10 : Int32).toInt = 10 := rfl
  have kc11 : (11 : Int32).toInt = 11 := rfl
  have kc12 : (12 : Int32).toInt = 12 := rfl
  have kc13 : (13 : Int32).toInt = 13 := rfl
  have kc14 : (14 : Int32).toInt = 14 := rfl
  have kc15 : (15 : Int32).toInt = 15 := rfl
  have kc16 : (16 : Int32).toInt = 16 := rfl
  have kc17 : (17 : Int32).toInt = 17 := rfl
  have kc18 : (18 : Int32).toInt = 18 := rfl
  have kc19 : (19 : Int32).toInt = 19 := rfl
  have kc20 : (20 : Int32).toInt = 20 := rfl
  have kc21 : (21 : Int32).toInt = 21 := rfl
  have kc22 : (22 : Int32).toInt = 22 := rfl
  have kc23 : (23 : Int32).toInt = 23 := rfl
  have kc24 : (24 : Int32).toInt = 24 := rfl
  have kc25 : (25 : Int32).toInt = 25 := rfl
  have kc26 : (26 : Int32).toInt = 26 := rfl
  have kc27 : (27 : Int32).toInt = 27 := rfl
  have kc28 : (28 : Int32).toInt = 28 := rfl
  have kc29 : (29 : Int32).toInt = 29 := rfl
  have kc30 : (30 : Int32).toInt = 30 := rfl
  have kc31 : (31 : Int32).toInt = 31 := rfl
  have kc32 : (32 : Int32).toInt = 32 := rfl
  have kc33 : (33 : Int32).toInt = 33 := rfl
  have kc63 : (63 : Int32).toInt = 63 := rfl
  have back : ∀ (L1 : List Nat) (f1 : py_F) (H1 : Heap) (locs1 : List Loc) (ls1 : Array Slot), LW E L1 f1 x u o → py_W E (fun q : Nat => s.heap.size ≤ q) s L1 f1 H1 locs1 → lv_has ls1 7 [(4, .int i), (3, .ref o), (2, .ref u), (1, .ref x), (0, .ref b)] → i.toInt + 6 ≤ N → W p l e room_1 s m #[Value.ref b] below meth c H1 locs1 (131 + 8 * k + 8) (11321 + 256 * k + 256) (lw_Z below #[Value.ref b] s) (F0 m 1321 ls1 []) := by
    intro L1 f1 H1 locs1 ls hLW hw hl hiN
    rw [show 131 + 8 * k + 8 = 131 + 8 * (k + 1) by omega, show 11321 + 256 * k + 256 = 11321 + 256 * (k + 1) by omega]
    obtain ⟨x_5001, ex_5001⟩ : ∃ y : Int32, y = i + 6 := ⟨_, rfl⟩
    first | have tx_5001 := ti_add ex_5001 (by omega) (by omega) | skip
    refine lv_iinc (v := x_5001) (lv' := [(4, .int x_5001), (3, .ref o), (2, .ref u), (1, .ref x), (0, .ref b)]) G0.1 G0.2.1 dL_law_1321 hl (k := 0) rfl (show _ + (6 : Int32) = _ from ex_5001.symm) (by decide) rfl (fun ls hl => ?_)
    refine lv_goto (tgt := 23) G0.1 G0.2.1 dL_law_1324 (by decide) ?_
    exact ih (k + 1) L1 f1 _ _ x u o x_5001 ls (by omega) (by omega) (by omega) hLW hw (lv_sub hl [0, 1, 2, 3, 4] rfl)
  refine lv_iload G0.1 G0.2.1 dL_law_23 (lv_at hl 0 rfl) ?_
  refine lv_aload_n G0.1 G0.2.1 dL_law_25 rfl (lv_at hl 4 rfl) ?_
  refine va_slen G0.1 G0.2.1 hX hbl hbA hw.2.2.2.1 dL_law_26 ?_
  refine lv_topi (fun x_1 ex_1 => ?_)
  have tx_1 : x_1.toInt = N := (congrArg Int32.toInt ex_1).trans (ti_nat hN)
  refine lv_bipush (v := 6) G0.1 G0.2.1 dL_law_27 (by decide) ?_
  refine lv_isub G0.1 G0.2.1 dL_law_29 ?_
  refine lv_topi (fun x_2 ex_2 => ?_)
  first | have tx_2 := ti_sub ex_2 (by omega) (by omega) | skip
  refine lv_icmp_gt (tgt := 1327) G0.1 G0.2.1 dL_law_30 (by decide) (fun c_3 => ?_) (fun c_3 => ?_)
  · skip
    have tc_3 := ti_lt c_3
    refine lv_iconst (v := 1) G0.1 G0.2.1 dL_law_1327 (by decide) ?_
    refine va_forget (fun q hq => hw.2.2.2.1.2.2 q hq) ?_
    refine W.widen (k := 601024) (n := 7293034) (by omega) (by omega) ?_
    exact lw_ret hx hb hr hlocks dL_law_1328
  · skip
    have tc_3 := ti_nlt c_3
    refine lv_aload_n G0.1 G0.2.1 dL_law_33 rfl (lv_at hl 4 rfl) ?_
    refine lv_iload G0.1 G0.2.1 dL_law_34 (lv_at hl 0 rfl) ?_
    have rg_4 : vp_in i N := ti_in (by omega) (by omega)
    refine va_sld G0.1 G0.2.1 hX hbl hbA hw.2.2.2.1 rg_4 dL_law_36 ?_
    refine lv_topi (fun x_5 ex_5 => ?_)
    refine lv_bipush (v := 63) G0.1 G0.2.1 dL_law_37 (by decide) ?_
    refine lv_iand G0.1 G0.2.1 dL_law_39 ?_
    refine lv_topi (fun x_6 ex_6 => ?_)
    rcases sw_L_law_40 x_6 with e_sw | e_sw | e_sw | e_sw | e_sw | e_sw | e_sw | e_sw | e_sw | e_sw | e_sw | e_sw | e_sw | e_sw | e_sw | e_sw | e_sw | e_sw | e_sw | e_sw | e_sw | e_sw | e_sw | e_sw | e_sw | e_sw | e_sw | e_sw | e_sw | e_sw | e_sw | e_sw | e_sw | e_sw | e_sw
    · skip
      have te := ti_eq e_sw
      refine lv_tableIn (off := 152) (tgt := 192) G0.1 G0.2.1 dL_law_40 (by omega) (by omega) (by rw [e_sw]; decide) (by decide) ?_
      exact lc_0 l hst C0 G0 hN hw hLW (by omega) (by omega) (by omega) (by omega) (lv_sub hl [0, 1, 2, 3, 4] rfl) (fun L1 f1 H1 locs1 ls1 h1 h2 h3 => back L1 f1 H1 locs1 ls1 h1 h2 h3 (by omega))
    · skip
      have te := ti_eq e_sw
      refine lv_tableIn (off := 225) (tgt := 265) G0.1 G0.2.1 dL_law_40 (by omega) (by omega) (by rw [e_sw]; decide) (by decide) ?_
      exact lc_1 l hst C0 G0 hN hw hLW (by omega) (by omega) (by omega) (by omega) (lv_sub hl [0, 1, 2, 3, 4] rfl) (fun L1 f1 H1 locs1 ls1 h1 h2 h3 => back L1 f1 H1 locs1 ls1 h1 h2 h3 (by omega))
    · skip
      have te := ti_eq e_sw
      refine lv_tableIn (off := 250) (tgt := 290) G0.1 G0.2.1 dL_law_40 (by omega) (by omega) (by rw [e_sw]; decide) (by decide) ?_
      exact lc_2 l hst C0 G0 hN hw hLW (by omega) (by omega) (by omega) (by omega) (lv_sub hl [0, 1, 2, 3, 4] rfl) (fun L1 f1 H1 locs1 ls1 h1 h2 h3 => back L1 f1 H1 locs1 ls1 h1 h2 h3 (by omega))
    · skip
      have te := ti_eq e_sw
      refine lv_tableIn (off := 275) (tgt := 315) G0.1 G0.2.1 dL_law_40 (by omega) (by omega) (by rw [e_sw]; decide) (by decide) ?_
      exact lc_3 l hst C0 G0 hN hw hLW (by omega) (by omega) (by omega) (by omega) (lv_sub hl [0, 1, 2, 3, 4] rfl) (fun L1 f1 H1 locs1 ls1 h1 h2 h3 => back L1 f1 H1 locs1 ls1 h1 h2 h3 (by omega))
    · skip
      have te := ti_eq e_sw
      refine lv_tableIn (off := 300) (tgt := 340) G0.1 G0.2.1 dL_law_40 (by omega) (by omega) (by rw [e_sw]; decide) (by decide) ?_
      exact lc_4 l hst C0 G0 hN hw hLW (by omega) (by omega) (by omega) (by omega) (lv_sub hl [0, 1, 2, 3, 4] rfl) (fun L1 f1 H1 locs1 ls1 h1 h2 h3 => back L1 f1 H1 locs1 ls1 h1 h2 h3 (by omega))
    · skip
      have te := ti_eq e_sw
      refine lv_tableIn (off := 340) (tgt := 380) G0.1 G0.2.1 dL_law_40 (by omega) (by omega) (by rw [e_sw]; decide) (by decide) ?_
      exact lc_5 l hst C0 G0 hN hw hLW (by omega) (by omega) (by omega) (by omega) (lv_sub hl [0, 1, 2, 3, 4] rfl) (fun L1 f1 H1 locs1 ls1 h1 h2 h3 => back L1 f1 H1 locs1 ls1 h1 h2 h3 (by omega))
    · skip
      have te := ti_eq e_sw
      refine lv_tableIn (off := 377) (tgt := 417) G0.1 G0.2.1 dL_law_40 (by omega) (by omega) (by rw [e_sw]; decide) (by decide) ?_
      exact lc_6 l hst C0 G0 hN hw hLW (by omega) (by omega) (by omega) (by omega) (lv_sub hl [0, 1, 2, 3, 4] rfl) (fun L1 f1 H1 locs1 ls1 h1 h2 h3 => back L1 f1 H1 locs1 ls1 h1 h2 h3 (by omega))
    · skip
      have te := ti_eq e_sw
      refine lv_tableIn (off := 414) (tgt := 454) G0.1 G0.2.1 dL_law_40 (by omega) (by omega) (by rw [e_sw]; decide) (by decide) ?_
      exact lc_7 l hst C0 G0 hN hw hLW (by omega) (by omega) (by omega) (by omega) (lv_sub hl [0, 1, 2, 3, 4] rfl) (fun L1 f1 H1 locs1 ls1 h1 h2 h3 => back L1 f1 H1 locs1 ls1 h1 h2 h3 (by omega))
    · skip
      have te := ti_eq e_sw
      refine lv_tableIn (off := 439) (tgt := 479) G0.1 G0.2.1 dL_law_40 (by omega) (by omega) (by rw [e_sw]; decide) (by decide) ?_
      exact lc_8 l hst C0 G0 hN hw hLW (by omega) (by omega) (by omega) (by omega) (lv_sub hl [0, 1, 2, 3, 4] rfl) (fun L1 f1 H1 locs1 ls1 h1 h2 h3 => back L1 f1 H1 locs1 ls1 h1 h2 h3 (by omega))
    · skip
      have te := ti_eq e_sw
      refine lv_tableIn (off := 476) (tgt := 516) G0.1 G0.2.1 dL_law_40 (by omega) (by omega) (by rw [e_sw]; decide) (by decide) ?_
      exact lc_9 l hst C0 G0 hN hw hLW (by omega) (by omega) (by omega) (by omega) (lv_sub hl [0, 1, 2, 3, 4] rfl) (fun L1 f1 H1 locs1 ls1 h1 h2 h3 => back L1 f1 H1 locs1 ls1 h1 h2 h3 (by omega))
    · skip
      have te := ti_eq e_sw
      refine lv_tableIn (off := 533) (tgt := 573) G0.1 G0.2.1 dL_law_40 (by omega) (by omega) (by rw [e_sw]; decide) (by decide) ?_
      exact lc_10 l hst C0 G0 hN hw hLW (by omega) (by omega) (by omega) (by omega) (lv_sub hl [0, 1, 2, 3, 4] rfl) (fun L1 f1 H1 locs1 ls1 h1 h2 h3 => back L1 f1 H1 locs1 ls1 h1 h2 h3 (by omega))
    · skip
      have te := ti_eq e_sw
      refine lv_tableIn (off := 558) (tgt := 598) G0.1 G0.2.1 dL_law_40 (by omega) (by omega) (by rw [e_sw]; decide) (by decide) ?_
      exact lc_11 l hst C0 G0 hN hw hLW (by omega) (by omega) (by omega) (by omega) (lv_sub hl [0, 1, 2, 3, 4] rfl) (fun L1 f1 H1 locs1 ls1 h1 h2 h3 => back L1 f1 H1 locs1 ls1 h1 h2 h3 (by omega))
    · skip
      have te := ti_eq e_sw
      refine lv_tableIn (off := 571) (tgt := 611) G0.1 G0.2.1 dL_law_40 (by omega) (by omega) (by rw [e_sw]; decide) (by decide) ?_
      exact lc_12 l hst C0 G0 hN hw hLW (by omega) (by omega) (by omega) (by omega) (lv_sub hl [0, 1, 2, 3, 4] rfl) (fun L1 f1 H1 locs1 ls1 h1 h2 h3 => back L1 f1 H1 locs1 ls1 h1 h2 h3 (by omega))
    · skip
      have te := ti_eq e_sw
      refine lv_tableIn (off := 608) (tgt := 648) G0.1 G0.2.1 dL_law_40 (by omega) (by omega) (by rw [e_sw]; decide) (by decide) ?_
      exact lc_13 l hst C0 G0 hN hw hLW (by omega) (by omega) (by omega) (by omega) (lv_sub hl [0, 1, 2, 3, 4] rfl) (fun L1 f1 H1 locs1 ls1 h1 h2 h3 => back L1 f1 H1 locs1 ls1 h1 h2 h3 (by omega))
    · skip
      have te := ti_eq e_sw
      refine lv_tableIn (off := 621) (tgt := 661) G0.1 G0.2.1 dL_law_40 (by omega) (by omega) (by rw [e_sw]; decide) (by decide) ?_
      exact lc_14 l hst C0 G0 hN hw hLW (by omega) (by omega) (by omega) (by omega) (lv_sub hl [0, 1, 2, 3, 4] rfl) (fun L1 f1 H1 locs1 ls1 h1 h2 h3 => back L1 f1 H1 locs1 ls1 h1 h2 h3 (by omega))
    · skip
      have te := ti_eq e_sw
      refine lv_tableIn (off := 674) (tgt := 714) G0.1 G0.2.1 dL_law_40 (by omega) (by omega) (by rw [e_sw]; decide) (by decide) ?_
      exact lc_15 l hst C0 G0 hN hw hLW (by omega) (by omega) (by omega) (by omega) (lv_sub hl [0, 1, 2, 3, 4] rfl) (fun L1 f1 H1 locs1 ls1 h1 h2 h3 => back L1 f1 H1 locs1 ls1 h1 h2 h3 (by omega))
    · skip
      have te := ti_eq e_sw
      refine lv_tableIn (off := 687) (tgt := 727) G0.1 G0.2.1 dL_law_40 (by omega) (by omega) (by rw [e_sw]; decide) (by decide) ?_
      exact lc_16 l hst C0 G0 hN hw hLW (by omega) (by omega) (by omega) (by omega) (lv_sub hl [0, 1, 2, 3, 4] rfl) (fun L1 f1 H1 locs1 ls1 h1 h2 h3 => back L1 f1 H1 locs1 ls1 h1 h2 h3 (by omega))
    · skip
      have te := ti_eq e_sw
      refine lv_tableIn (off := 712) (tgt := 752) G0.1 G0.2.1 dL_law_40 (by omega) (by omega) (by rw [e_sw]; decide) (by decide) ?_
      exact lc_17 l hst C0 G0 hN hw hLW (by omega) (by omega) (by omega) (by omega) (lv_sub hl [0, 1, 2, 3, 4] rfl) (fun L1 f1 H1 locs1 ls1 h1 h2 h3 => back L1 f1 H1 locs1 ls1 h1 h2 h3 (by omega))
    · skip
      have te := ti_eq e_sw
      refine lv_tableIn (off := 737) (tgt := 777) G0.1 G0.2.1 dL_law_40 (by omega) (by omega) (by rw [e_sw]; decide) (by decide) ?_
      exact lc_18 l hst C0 G0 hN hw hLW (by omega) (by omega) (by omega) (by omega) (lv_sub hl [0, 1, 2, 3, 4] rfl) (fun L1 f1 H1 locs1 ls1 h1 h2 h3 => back L1 f1 H1 locs1 ls1 h1 h2 h3 (by omega))
    · skip
      have te := ti_eq e_sw
      refine lv_tableIn (off := 786) (tgt := 826) G0.1 G0.2.1 dL_law_40 (by omega) (by omega) (by rw [e_sw]; decide) (by decide) ?_
      exact lc_19 l hst C0 G0 hN hw hLW (by omega) (by omega) (by omega) (by omega) (lv_sub hl [0, 1, 2, 3, 4] rfl) (fun L1 f1 H1 locs1 ls1 h1 h2 h3 => back L1 f1 H1 locs1 ls1 h1 h2 h3 (by omega))
    · skip
      have te := ti_eq e_sw
      refine lv_tableIn (off := 847) (tgt := 887) G0.1 G0.2.1 dL_law_40 (by omega) (by omega) (by rw [e_sw]; decide) (by decide) ?_
      exact lc_20 l hst C0 G0 hN hw hLW (by omega) (by omega) (by omega) (by omega) (lv_sub hl [0, 1, 2, 3, 4] rfl) (fun L1 f1 H1 locs1 ls1 h1 h2 h3 => back L1 f1 H1 locs1 ls1 h1 h2 h3 (by omega))
    · skip
      have te := ti_eq e_sw
      refine lv_tableIn (off := 884) (tgt := 924) G0.1 G0.2.1 dL_law_40 (by omega) (by omega) (by rw [e_sw]; decide) (by decide) ?_
      exact lc_21 l hst C0 G0 hN hw hLW (by omega) (by omega) (by omega) (by omega) (lv_sub hl [0, 1, 2, 3, 4] rfl) (fun L1 f1 H1 locs1 ls1 h1 h2 h3 => back L1 f1 H1 locs1 ls1 h1 h2 h3 (by omega))
    · skip
      have te := ti_eq e_sw
      refine lv_tableIn (off := 933) (tgt := 973) G0.1 G0.2.1 dL_law_40 (by omega) (by omega) (by rw [e_sw]; decide) (by decide) ?_
      exact lc_22 l hst C0 G0 hN hw hLW (by omega) (by omega) (by omega) (by omega) (lv_sub hl [0, 1, 2, 3, 4] rfl) (fun L1 f1 H1 locs1 ls1 h1 h2 h3 => back L1 f1 H1 locs1 ls1 h1 h2 h3 (by omega))
    · skip
      have te := ti_eq e_sw
      refine lv_tableIn (off := 970) (tgt := 1010) G0.1 G0.2.1 dL_law_40 (by omega) (by omega) (by rw [e_sw]; decide) (by decide) ?_
      exact lc_23 l hst C0 G0 hN hw hLW (by omega) (by omega) (by omega) (by omega) (lv_sub hl [0, 1, 2, 3, 4] rfl) (fun L1 f1 H1 locs1 ls1 h1 h2 h3 => back L1 f1 H1 locs1 ls1 h1 h2 h3 (by omega))
    · skip
      have te := ti_eq e_sw
      refine lv_tableIn (off := 983) (tgt := 1023) G0.1 G0.2.1 dL_law_40 (by omega) (by omega) (by rw [e_sw]; decide) (by decide) ?_
      exact lc_24 l hst C0 G0 hN hw hLW (by omega) (by omega) (by omega) (by omega) (lv_sub hl [0, 1, 2, 3, 4] rfl) (fun L1 f1 H1 locs1 ls1 h1 h2 h3 => back L1 f1 H1 locs1 ls1 h1 h2 h3 (by omega))
    · skip
      have te := ti_eq e_sw
      refine lv_tableIn (off := 1008) (tgt := 1048) G0.1 G0.2.1 dL_law_40 (by omega) (by omega) (by rw [e_sw]; decide) (by decide) ?_
      exact lc_25 l hst C0 G0 hN hw hLW (by omega) (by omega) (by omega) (by omega) (lv_sub hl [0, 1, 2, 3, 4] rfl) (fun L1 f1 H1 locs1 ls1 h1 h2 h3 => back L1 f1 H1 locs1 ls1 h1 h2 h3 (by omega))
    · skip
      have te := ti_eq e_sw
      refine lv_tableIn (off := 1033) (tgt := 1073) G0.1 G0.2.1 dL_law_40 (by omega) (by omega) (by rw [e_sw]; decide) (by decide) ?_
      exact lc_26 l hst C0 G0 hN hw hLW (by omega) (by omega) (by omega) (by omega) (lv_sub hl [0, 1, 2, 3, 4] rfl) (fun L1 f1 H1 locs1 ls1 h1 h2 h3 => back L1 f1 H1 locs1 ls1 h1 h2 h3 (by omega))
    · skip
      have te := ti_eq e_sw
      refine lv_tableIn (off := 1082) (tgt := 1122) G0.1 G0.2.1 dL_law_40 (by omega) (by omega) (by rw [e_sw]; decide) (by decide) ?_
      exact lc_27 l hst C0 G0 hN hw hLW (by omega) (by omega) (by omega) (by omega) (lv_sub hl [0, 1, 2, 3, 4] rfl) (fun L1 f1 H1 locs1 ls1 h1 h2 h3 => back L1 f1 H1 locs1 ls1 h1 h2 h3 (by omega))
    · skip
      have te := ti_eq e_sw
      refine lv_tableIn (off := 1107) (tgt := 1147) G0.1 G0.2.1 dL_law_40 (by omega) (by omega) (by rw [e_sw]; decide) (by decide) ?_
      exact lc_28 l hst C0 G0 hN hw hLW (by omega) (by omega) (by omega) (by omega) (lv_sub hl [0, 1, 2, 3, 4] rfl) (fun L1 f1 H1 locs1 ls1 h1 h2 h3 => back L1 f1 H1 locs1 ls1 h1 h2 h3 (by omega))
    · skip
      have te := ti_eq e_sw
      refine lv_tableIn (off := 1132) (tgt := 1172) G0.1 G0.2.1 dL_law_40 (by omega) (by omega) (by rw [e_sw]; decide) (by decide) ?_
      exact lc_29 l hst C0 G0 hN hw hLW (by omega) (by omega) (by omega) (by omega) (lv_sub hl [0, 1, 2, 3, 4] rfl) (fun L1 f1 H1 locs1 ls1 h1 h2 h3 => back L1 f1 H1 locs1 ls1 h1 h2 h3 (by omega))
    · skip
      have te := ti_eq e_sw
      refine lv_tableIn (off := 1169) (tgt := 1209) G0.1 G0.2.1 dL_law_40 (by omega) (by omega) (by rw [e_sw]; decide) (by decide) ?_
      exact lc_30 l hst C0 G0 hN hw hLW (by omega) (by omega) (by omega) (by omega) (lv_sub hl [0, 1, 2, 3, 4] rfl) (fun L1 f1 H1 locs1 ls1 h1 h2 h3 => back L1 f1 H1 locs1 ls1 h1 h2 h3 (by omega))
    · skip
      have te := ti_eq e_sw
      refine lv_tableIn (off := 1230) (tgt := 1270) G0.1 G0.2.1 dL_law_40 (by omega) (by omega) (by rw [e_sw]; decide) (by decide) ?_
      exact lc_31 l hst C0 G0 hN hw hLW (by omega) (by omega) (by omega) (by omega) (lv_sub hl [0, 1, 2, 3, 4] rfl) (fun L1 f1 H1 locs1 ls1 h1 h2 h3 => back L1 f1 H1 locs1 ls1 h1 h2 h3 (by omega))
    · skip
      have te := ti_eq e_sw
      refine lv_tableIn (off := 1243) (tgt := 1283) G0.1 G0.2.1 dL_law_40 (by omega) (by omega) (by rw [e_sw]; decide) (by decide) ?_
      exact lc_32 l hst C0 G0 hN hw hLW (by omega) (by omega) (by omega) (by omega) (lv_sub hl [0, 1, 2, 3, 4] rfl) (fun L1 f1 H1 locs1 ls1 h1 h2 h3 => back L1 f1 H1 locs1 ls1 h1 h2 h3 (by omega))
    · skip
      have te := ti_eq e_sw
      refine lv_tableIn (off := 1256) (tgt := 1296) G0.1 G0.2.1 dL_law_40 (by omega) (by omega) (by rw [e_sw]; decide) (by decide) ?_
      exact lc_33 l hst C0 G0 hN hw hLW (by omega) (by omega) (by omega) (by omega) (lv_sub hl [0, 1, 2, 3, 4] rfl) (fun L1 f1 H1 locs1 ls1 h1 h2 h3 => back L1 f1 H1 locs1 ls1 h1 h2 h3 (by omega))
    · skip
      refine lv_tableOut (tgt := 1321) G0.1 G0.2.1 dL_law_40 e_sw (by decide) ?_
      refine W.widen (k := 131 + 8 * k + 8) (n := 11321 + 256 * k + 256) (by omega) (by omega) ?_
      exact back _ _ _ _ ls hLW hw (lv_sub hl [0, 1, 2, 3, 4] rfl) (by omega)
