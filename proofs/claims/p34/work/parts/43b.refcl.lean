set_option maxHeartbeats 4000000 in
set_option maxRecDepth 100000 in
theorem ol_X12_clause_70 {p : Program} {l : Launch} {e : Env} {s : State} {m : MethodId} {below : List Frame} {meth : Method} {c : Code} {E : py_E} {G : wf_G} {L : List Nat} {f : py_F} (hG : GT G) (u : Nat) (gb : rs_B) (nb : Int) (pb : Int) (Tu : G.1 u = 13) (G0 : CallFix p m c cX12_clause 3 s ([.ref u] : List Value).toArray w_X12_clause RX12) (hr : meth.sig.returnType = none) (hlk : meth.locks = false) (x_47 : Int32) (hk :  x_47.toInt = (90 * mi f u 14 + clv f G u)) (hcd : 0 ≤ cdv f G u ∧ cdv f G u ≤ 340) (hck : 0 ≤ clv f G u ∧ clv f G u ≤ 90) (hp0 : mi f u 4 = -1 ∧ mi f u 5 = 0 ∧ 0 ≤ mi f u 3 ∧ mi f u 3 ≤ mi f u 2 ∧ cdv f G u ≤ mi f u 3 ∧ 2 * clv f G u ≤ mi f u 3) (h14 : (0 ≤ mi f u 14 ∧ mi f u 14 ≤ 4) ∧ 0 ≤ mi f u 2 ∧ mi f u 2 ≤ 160) (hn2 : mi f u 2 = nb ∧ mi f u 3 = pb ∧ 0 ≤ pb) (hg1 : pb ≤ rs_sk gb nb pb) (hg2 : rs_sk gb nb pb + 1 ≤ rs_sk gb nb (rs_sk gb nb pb + 1)) : ∀ (L_j70 : List Nat) (f_j70 : py_F) (H_j70 : Heap) (locs : List Loc) (ls : Array Slot), WF E G L_j70 f_j70 → KP G [41, 42, 43, 44, 45, 46, 47, 13] false f f_j70 → AX f f_j70 (G.2 u 9) (mi f u 14) → AX f f_j70 (G.2 u 10) (90 * mi f u 14 + clv f G u) → AX f f_j70 (G.2 u 11) (90 * mi f u 14 + clv f G u) → AX f f_j70 (G.2 u 12) (90 * mi f u 14 + clv f G u) → AG f_j70 (G.2 u 1) gb nb → FK [3, 4, 5] f f_j70 u → TR f f_j70 G u (80) 0 0 → (mi f u 3 + 1 ≤ mi f_j70 u 3 ∧ mi f_j70 u 3 ≤ 161) → (cdv f_j70 G u = cdv f G u ∧ clv f_j70 G u = clv f G u ∧ mi f_j70 u 14 = mi f u 14) → (mi f_j70 u 4 = -1 → mi f_j70 u 3 < mi f u 2) → (mi f_j70 u 5 = 0 ∧ mi f_j70 u 2 = mi f u 2) → ((mi f_j70 u 4 = -1 ∧ mi f_j70 u 3 = rs_sk gb nb (rs_sk gb nb pb + 1) ∧ rs_v gb nb (rs_sk gb nb pb) = 121 ∧ rs_v gb nb (rs_sk gb nb (rs_sk gb nb pb + 1)) = 58) ∨ (mi f_j70 u 4 = rs_sk gb nb pb ∧ rs_v gb nb (rs_sk gb nb pb) ≠ 121) ∨ (mi f_j70 u 4 = rs_sk gb nb (rs_sk gb nb pb + 1) ∧ rs_v gb nb (rs_sk gb nb pb) = 121 ∧ rs_v gb nb (rs_sk gb nb (rs_sk gb nb pb + 1)) ≠ 58)) → py_W E (va_A (va_pl L f) s.heap.size) s L_j70 f_j70 H_j70 locs → lv_has ls 3 [(1, .int x_47), (0, .ref u)] → W p l e (headSpec w_X12_clause ({ frames := 67, cells := 0, slots := 0, locals := 3680 })).room s m ([.ref u] : List Value).toArray below meth c H_j70 locs 0 0 (MQ below (py_Qv E L f s.heap.size (fun L1 f1 => (mi f u 3 + 2 ≤ mi f1 u 3 ∧ cdv f1 G u ≤ mi f1 u 3 ∧ mi f1 u 3 ≤ 170) ∧ (mi f1 u 4 = -1 → mi f1 u 5 = 0 ∧ mi f1 u 3 ≤ mi f u 2 ∧ clv f1 G u = clv f G u + 1) ∧ (clv f1 G u = clv f G u ∨ clv f1 G u = clv f G u + 1) ∧ (CX f f1 G u) ∧ (mi f1 u 4 = -1 → CO f1 G u (mi f u 14) (90 * mi f u 14 + clv f G u) ∧ arz f1 (G.2 u 12) (90 * mi f u 14 + clv f G u) ≤ cdv f1 G u) ∧ (mi f1 u 4 = -1 → (rs_ca gb nb pb).1 ≠ 0 ∧ mi f1 u 3 = (rs_ca gb nb pb).2) ∧ (mi f1 u 4 ≠ -1 → (rs_ca gb nb pb).1 = 0 ∧ mi f1 u 4 = (rs_ca gb nb pb).2) ∧ WF E G L1 f1 ∧ KP G [41, 42, 43, 44, 45, 46, 47, 13] false f f1 ∧ FK [3, 4, 5] f f1 u)) ([.ref u] : List Value).toArray s 0 0 (va_A (va_pl L f) s.heap.size)) (F0 m 70 ls []) := by
  have kcm1 : (-1 : Int32).toInt = -1 := rfl
  have kc0 : (0 : Int32).toInt = 0 := rfl
  have kc1 : (1 : Int32).toInt = 1 := rfl
  have kc33 : (33 : Int32).toInt = 33 := rfl
  have kc40 : (40 : Int32).toInt = 40 := rfl
  have kc63 : (63 : Int32).toInt = 63 := rfl
  have kc90 : (90 : Int32).toInt = 90 := rfl
  intro L_j70 f_j70 H_j70 locs ls hWF hKP hX9 hX10 hX11 hX12 hMB hFK hTR jv0 jv1 jv2 jv3 jv4 hw hl
  refine lv_aload_n G0.1 G0.2.1 dX12_clause_70 rfl (lv_at hl 1 rfl) ?_
  refine lv_dup G0.1 G0.2.1 dX12_clause_71 rfl ?_
  obtain ⟨v_100, v_101, v_102, v_103, v_104, v_105, v_106, v_107, v_108, v_109, v_110, v_111, y_112, v_113, v_114, v_115, v_116, v_117, y_118, v_119, y_120, v_121, hr_134, b_122, b_123, b_124, b_125, b_126, b_127, b_128, b_129, b_130, b_131, b_132, b_133⟩ := wg_12 hWF Tu
  have tq_135 := mi_row hr_134 2 rfl
  have tq_136 := mi_row hr_134 3 rfl
  have bv_102 := wf_free v_102
  have tq_137 := mi_row hr_134 4 rfl
  have bv_103 := wf_free v_103
  have tq_138 := mi_row hr_134 5 rfl
  have bv_104 := wf_free v_104
  have tq_139 := mi_row hr_134 14 rfl
  refine py_get (C := RX12) (T := TX12) (N := 54) (k := 3) (v := .int v_102) G0 hw in_X12_clause_X12 rfl hr_134 (by decide) (by decide +kernel) rfl dX12_clause_72 ?_
  refine lv_iconst (v := 1) G0.1 G0.2.1 dX12_clause_75 (by decide) ?_
  refine lv_iadd G0.1 G0.2.1 dX12_clause_76 ?_
  refine lv_topi (fun x_140 ex_140 => ?_)
  first | have tx_140 := ti_add ex_140 (by omega -splitDisjunctions) (by omega -splitDisjunctions) | skip
  refine py_put (C := RX12) (T := TX12) (N := 54) (k := 3) (v := .int x_140) (fs' := [.int v_100, .ref (G.2 u 1), .int v_101, .int x_140, .int v_103, .int v_104, .ref (G.2 u 6), .ref (G.2 u 7), .ref (G.2 u 8), .ref (G.2 u 9), .ref (G.2 u 10), .ref (G.2 u 11), .ref (G.2 u 12), .int v_105, .int v_106, .ref (G.2 u 15), .ref (G.2 u 16), .ref (G.2 u 17), .ref (G.2 u 18), .int v_107, .int v_108, .ref (G.2 u 21), .ref (G.2 u 22), .ref (G.2 u 23), .int v_109, .int v_110, .ref (G.2 u 26), .ref (G.2 u 27), .ref (G.2 u 28), .int v_111, .long y_112, .int v_113, .int v_114, .int v_115, .int v_116, .ref (G.2 u 35), .ref (G.2 u 36), .ref (G.2 u 37), .ref (G.2 u 38), .ref (G.2 u 39), .ref (G.2 u 40), .ref (G.2 u 41), .ref (G.2 u 42), .int v_117, .ref (G.2 u 44), .ref (G.2 u 45), .ref (G.2 u 46), .ref (G.2 u 47), .long y_118, .ref (G.2 u 49), .ref (G.2 u 50), .int v_119, .long y_120, .int v_121]) (ty0 := tyX12) G0 hw tyX12_ok nmX12 in_X12_clause_X12 rfl hr_134 (by decide) (by decide +kernel) rfl rfl rfl rfl (Nat.le_of_ble_eq_true rfl) rfl dX12_clause_77 (fun f_141 H_142 locs h_143 x_144 hw => ?_)
  have hX9 := hX9.same ((x_144 _ (hWF _ (by rw [wt12_9 hG Tu]; decide)).1 (wf_ne (wt12_9 hG Tu) Tu (by decide))).2)
  have hX10 := hX10.same ((x_144 _ (hWF _ (by rw [wt12_10 hG Tu]; decide)).1 (wf_ne (wt12_10 hG Tu) Tu (by decide))).2)
  have hX11 := hX11.same ((x_144 _ (hWF _ (by rw [wt12_11 hG Tu]; decide)).1 (wf_ne (wt12_11 hG Tu) Tu (by decide))).2)
  have hX12 := hX12.same ((x_144 _ (hWF _ (by rw [wt12_12 hG Tu]; decide)).1 (wf_ne (wt12_12 hG Tu) Tu (by decide))).2)
  have hMB := hMB.kp (kp_f (KP.refl.upd hWF x_144 Tu (Or.inl (by decide)) : KP G [13] false f_j70 f_141) (wt12_1 hG Tu) (by decide) (by decide) (fun _ => by decide))
  have hFK := hFK.put hr_134 h_143 3 (by decide) rfl
  have cq_145 := cdv_own (f1 := f_j70) (f2 := f_141) hG hWF Tu x_144 (by have z1 := mi_row hr_134 14 rfl; have z2 := mi_row h_143 14 rfl; omega)
  have hTR := hTR.own hG hWF Tu x_144 (by have z1 := mi_row hr_134 14 rfl; have z2 := mi_row h_143 14 rfl; omega) (by intro q; have z1 := mi_row hr_134 4 rfl; have z2 := mi_row h_143 4 rfl; omega)
  have kq_146 := clv_own (f1 := f_j70) (f2 := f_141) hG hWF Tu x_144 (by have z1 := mi_row hr_134 14 rfl; have z2 := mi_row h_143 14 rfl; omega)
  have hKP := hKP.upd hWF x_144 Tu (Or.inl (by decide))
  have hWF := wf_upd hWF h_143 x_144 (by rw [Tu]; exact ⟨v_100, v_101, x_140, v_103, v_104, v_105, v_106, v_107, v_108, v_109, v_110, v_111, y_112, v_113, v_114, v_115, v_116, v_117, y_118, v_119, y_120, v_121, rfl, ⟨by omega, by omega⟩, ⟨by omega, by omega⟩, ⟨by omega, by omega⟩, ⟨by omega, by omega⟩, ⟨by omega, by omega⟩, ⟨by omega, by omega⟩, ⟨by omega, by omega⟩, ⟨by omega, by omega⟩, ⟨by omega, by omega⟩, ⟨by omega, by omega⟩, ⟨by omega, by omega⟩, ⟨by omega, by omega⟩⟩)
  have tq_147 := mi_row h_143 2 rfl
  have tq_148 := mi_row h_143 3 rfl
  have bx_140 := wf_free x_140
  have tq_149 := mi_row h_143 4 rfl
  have bv_103 := wf_free v_103
  have tq_150 := mi_row h_143 5 rfl
  have bv_104 := wf_free v_104
  have tq_151 := mi_row h_143 14 rfl
  refine lv_aload_n G0.1 G0.2.1 dX12_clause_80 rfl (lv_at hl 1 rfl) ?_
  refine py_get (C := RX12) (T := TX12) (N := 54) (k := 4) (v := .int v_103) G0 hw in_X12_clause_X12 rfl h_143 (by decide) (by decide +kernel) rfl dX12_clause_81 ?_
  refine lv_iconst (v := (-1)) G0.1 G0.2.1 dX12_clause_84 (by decide) ?_
  refine lv_icmp_eq (tgt := 89) G0.1 G0.2.1 dX12_clause_85 (by decide) (fun c_152 => ?_) (fun c_152 => ?_)
  · skip
    have tc_152 := ti_eq c_152
    have hB := jv4.resolve_right (fun z => z.elim (fun q => by omega) (fun q => by omega))
    obtain ⟨hb4, hb3, hbY, hbC⟩ := hB
    have hCB : (rs_ca gb nb pb) = rs_bd gb nb (rs_sk gb nb (rs_sk gb nb (rs_sk gb nb pb + 1) + 1)) := rs_ca_b hbY hbC
    clear jv4
    refine lv_aload_n G0.1 G0.2.1 dX12_clause_89 rfl (lv_at hl 1 rfl) ?_
    refine py_get (C := RX12) (T := TX12) (N := 54) (k := 10) (v := .ref (G.2 u 10)) G0 hw in_X12_clause_X12 rfl h_143 (by decide) (by decide +kernel) rfl dX12_clause_90 ?_
    refine lv_iload_n G0.1 G0.2.1 dX12_clause_93 rfl (lv_at hl 0 rfl) ?_
    refine lv_aload_n G0.1 G0.2.1 dX12_clause_94 rfl (lv_at hl 1 rfl) ?_
    refine py_get (C := RX12) (T := TX12) (N := 54) (k := 8) (v := .ref (G.2 u 8)) G0 hw in_X12_clause_X12 rfl h_143 (by decide) (by decide +kernel) rfl dX12_clause_95 ?_
    refine lv_aload_n G0.1 G0.2.1 dX12_clause_98 rfl (lv_at hl 1 rfl) ?_
    refine py_get (C := RX12) (T := TX12) (N := 54) (k := 14) (v := .int v_106) G0 hw in_X12_clause_X12 rfl h_143 (by decide) (by decide +kernel) rfl dX12_clause_99 ?_
    obtain ⟨g_153, ha_154, hi_155⟩ := wf_arr (n := 5) (lo := 0) (hi := 340) hWF (wt12_8 hG Tu) (by decide) (fun _ => rfl)
    have rg_156 : vp_in v_106 5 := ti_in (by omega) (by omega)
    refine py_iald G0 hw ha_154 rg_156 dX12_clause_102 ?_
    refine lv_topi (fun x_157 ex_157 => ?_)
    have bx_157 := ti_at hi_155 rg_156 ex_157
    have zx_157 := arz_ld ha_154 ex_157
    have hcxx_157 := cdv_ld h_143 rfl ha_154 ex_157
    obtain ⟨g_158, ha_159, hi_160⟩ := wf_arr (n := 450) (lo := (-2147483648)) (hi := 2147483647) hWF (wt12_10 hG Tu) (by decide) (fun _ => rfl)
    have rg_161 : vp_in x_47 450 := ti_in (by omega) (by omega)
    refine py_iast G0 hw ha_159 rg_161 dX12_clause_103 (fun f_162 H_163 locs h_164 x_165 hw => ?_)
    have hkw : KP G [45] false f_141 f_162 := KP.refl.upd hWF x_165 (wt12_10 hG Tu) (Or.inl (by decide))
    have hX9 := hX9.same ((x_165 _ (hWF _ (by rw [wt12_9 hG Tu]; decide)).1 (wf_ne (wt12_9 hG Tu) (wt12_10 hG Tu) (by decide))).2)
    have hX11 := hX11.same ((x_165 _ (hWF _ (by rw [wt12_11 hG Tu]; decide)).1 (wf_ne (wt12_11 hG Tu) (wt12_10 hG Tu) (by decide))).2)
    have hX12 := hX12.same ((x_165 _ (hWF _ (by rw [wt12_12 hG Tu]; decide)).1 (wf_ne (wt12_12 hG Tu) (wt12_10 hG Tu) (by decide))).2)
    have hMB := hMB.kp (kp_f (KP.refl.upd hWF x_165 (wt12_10 hG Tu) (Or.inl (by decide)) : KP G [45] false f_141 f_162) (wt12_1 hG Tu) (by decide) (by decide) (fun _ => by decide))
    have hFK := hFK.same ((x_165 _ (hWF _ (by rw [Tu]; decide)).1 (wf_ne Tu (wt12_10 hG Tu) (by decide))).2)
    have cq_166 := cdv_kp (f := f_141) (f1 := f_162) (m := u) (x_165 _ (hWF _ (by rw [wt12_8 hG Tu]; decide)).1 (wf_ne (wt12_8 hG Tu) (wt12_10 hG Tu) (by decide))).2 (mi_kp (x_165 u (hWF u (by rw [Tu]; decide)).1 (wf_ne Tu (wt12_10 hG Tu) (by decide))).2 14)
    have kq_167 := clv_kp (f := f_141) (f1 := f_162) (m := u) (x_165 _ (hWF _ (by rw [wt12_9 hG Tu]; decide)).1 (wf_ne (wt12_9 hG Tu) (wt12_10 hG Tu) (by decide))).2 (mi_kp (x_165 u (hWF u (by rw [Tu]; decide)).1 (wf_ne Tu (wt12_10 hG Tu) (by decide))).2 14)
    have hTR := hTR.same (f2 := f_162) (x_165 _ (hWF _ (by rw [wt12_6 hG Tu]; decide)).1 (wf_ne (wt12_6 hG Tu) (wt12_10 hG Tu) (by decide))).2 (x_165 _ (hWF _ (by rw [wt12_7 hG Tu]; decide)).1 (wf_ne (wt12_7 hG Tu) (wt12_10 hG Tu) (by decide))).2 (x_165 _ (hWF _ (by rw [wt12_8 hG Tu]; decide)).1 (wf_ne (wt12_8 hG Tu) (wt12_10 hG Tu) (by decide))).2 (mi_kp (x_165 u (hWF u (by rw [Tu]; decide)).1 (wf_ne Tu (wt12_10 hG Tu) (by decide))).2 14) (fun q => by have hz := mi_kp (x_165 u (hWF u (by rw [Tu]; decide)).1 (wf_ne Tu (wt12_10 hG Tu) (by decide))).2 4; omega)
    have hKP := hKP.upd hWF x_165 (wt12_10 hG Tu) (Or.inl (by decide))
    have hi_168 := wf_inu (k := (x_47 : Int32).toNatClampNeg) (x := x_157) hi_160 (wf_free x_157).1 (wf_free x_157).2
    have hWF := wf_upd hWF h_164 x_165 (by rw [(wt12_10 hG Tu)]; exact ⟨_, rfl, hi_168⟩)
    have h_143 := h_143.ext x_165 (py_ne_arr h_143 ha_159)
    have tq_169 := mi_row h_143 2 rfl
    have tq_170 := mi_row h_143 3 rfl
    have bx_140 := wf_free x_140
    have tq_171 := mi_row h_143 4 rfl
    have bv_103 := wf_free v_103
    have tq_172 := mi_row h_143 5 rfl
    have bv_104 := wf_free v_104
    have tq_173 := mi_row h_143 14 rfl
    have ha_154 := ha_154.ext x_165 (wf_ne (wt12_8 hG Tu) (wt12_10 hG Tu) (by decide))
    have hX10 := hX10.up ha_159 h_164 (by omega) (by omega)
    have hV10 : arz f_162 (G.2 u 10) (90 * mi f u 14 + clv f G u) = cdv f G u := by rw [show (90 * mi f u 14 + clv f G u) = x_47.toInt by omega, (arz_up ha_159 h_164 (by omega)).1]; omega
    refine lv_aload_n G0.1 G0.2.1 dX12_clause_104 rfl (lv_at hl 1 rfl) ?_
    refine py_calli hw (va_runV (As := []) (rest := []) G0 (c_X12_look l E G L_j70 f_162 H_163.size u gb nb (rs_sk gb nb (rs_sk gb nb pb + 1) + 1) hG hWF Tu (show 0 ≤ mi f_162 u 3 ∧ mi f_162 u 3 ≤ mi f_162 u 2 by omega) (show mi f_162 u 3 = (rs_sk gb nb (rs_sk gb nb pb + 1) + 1) by omega) (show mi f_162 u 2 = nb ∧ 0 ≤ (rs_sk gb nb (rs_sk gb nb pb + 1) + 1) by omega) hMB) (cwV 0 G0.2.2.2.2 g_X12_clause_X12_look_146 rfl rfl rfl (by decide +kernel) ⟨(Nat.le_of_ble_eq_true rfl), (Nat.le_of_ble_eq_true rfl)⟩) (py_preV hw (C := RX12) (T := TX12) (N := 54) rfl h_143) rfl rfl hl.1 rfl (lv_room (Nat.le_of_ble_eq_true rfl)) dX12_clause_105 ⟨(Nat.le_of_ble_eq_true rfl), (Nat.le_of_ble_eq_true rfl)⟩) (fun r_178 L_174 f_175 H_176 locs hp_177 hw => ?_)
    obtain ⟨en_179, en_180, en_181, en_182, hWF, kp_183, fk_184⟩ := hp_177
    have hX9 := hX9.same (kp_f kp_183 (wt12_9 hG Tu) (by decide) (by decide) (fun _ => by decide))
    have hX10 := hX10.same (kp_f kp_183 (wt12_10 hG Tu) (by decide) (by decide) (fun _ => by decide))
    have hX11 := hX11.same (kp_f kp_183 (wt12_11 hG Tu) (by decide) (by decide) (fun _ => by decide))
    have hX12 := hX12.same (kp_f kp_183 (wt12_12 hG Tu) (by decide) (by decide) (fun _ => by decide))
    have hV10 := (arz_kp (kp_f kp_183 (wt12_10 hG Tu) (by decide) (by decide) (fun _ => by decide)) _).trans hV10
    have hMB := hMB.kp (kp_f kp_183 (wt12_1 hG Tu) (by decide) (by decide) (fun _ => by decide))
    have cq_185 := cdv_k hG Tu kp_183 fk_184 (by decide)
    have kq_186 := clv_k hG Tu kp_183 fk_184 (by decide)
    have hFK := hFK.trans fk_184 (by decide)
    have hKP := hKP.trans kp_183 (by decide) (by decide)
    obtain ⟨v_187, hr_188⟩ := fk_3 hWF Tu fk_184 h_143
    have tq_189 := mi_row hr_188 2 rfl
    have tq_190 := mi_row hr_188 3 rfl
    have bv_187 := wf_free v_187
    have tq_191 := mi_row hr_188 4 rfl
    have bv_103 := wf_free v_103
    have tq_192 := mi_row hr_188 5 rfl
    have bv_104 := wf_free v_104
    have tq_193 := mi_row hr_188 14 rfl
    have h_164 := kp_at kp_183 hWF (wt12_10 hG Tu) (by decide) (by decide) (by decide) h_164
    have ha_154 := kp_at kp_183 hWF (wt12_8 hG Tu) (by decide) (by decide) (by decide) ha_154
    have hTR := hTR.kp hG Tu kp_183 fk_184 (by decide) (fun q => by omega)
    have br_178 := wf_free r_178
    refine lv_bipush (v := 33) G0.1 G0.2.1 dX12_clause_108 (by decide) ?_
    have jn_183 := ol_X12_clause_183 (l := l) (e := e) (below := below) (E := E) (L := L) (f := f) hG u gb nb pb Tu G0 hr hlk x_47 (by omega) hcd hck hp0 ⟨⟨by omega, by omega⟩, by omega, by omega⟩ (by omega)
    refine lv_icmp_eq (tgt := 122) G0.1 G0.2.1 dX12_clause_110 (by decide) (fun c_467 => ?_) (fun c_467 => ?_)
    · skip
      have tc_467 := ti_eq c_467
      replace en_180 := en_180 (by omega)
      refine lv_iconst (v := 1) G0.1 G0.2.1 dX12_clause_122 (by decide) ?_
      refine lv_goto (tgt := 127) G0.1 G0.2.1 dX12_clause_123 (by decide) ?_
      refine lv_istore_n (lv' := [(2, .int 1), (1, .int x_47), (0, .ref u)]) G0.1 G0.2.1 dX12_clause_127 rfl hl (by decide) rfl (fun ls hl => ?_)
      refine lv_iload_n G0.1 G0.2.1 dX12_clause_128 rfl (lv_at hl 0 rfl) ?_
      refine lv_if_eq (tgt := 139) G0.1 G0.2.1 dX12_clause_129 (by decide) (fun c_468 => ?_) (fun c_468 => ?_)
      · skip
        exact absurd c_468 (by decide)
      · skip
        have tc_468 := ti_ne c_468
        have hH : ∀ _ : Unit, rs_v gb nb (rs_sk gb nb (rs_sk gb nb (rs_sk gb nb pb + 1) + 1)) = 33 ∨ rs_v gb nb (rs_sk gb nb (rs_sk gb nb (rs_sk gb nb pb + 1) + 1)) = 40 := fun _ => by omega
        (try clear tc_467)
        have hk105 := en_182.1
        clear en_182
        (try clear en_180)
        refine lv_aload_n G0.1 G0.2.1 dX12_clause_132 rfl (lv_at hl 2 rfl) ?_
        refine py_callv hw (va_runV (As := []) (rest := []) G0 (rq_condition l E G hG L_174 f_175 H_176.size u gb nb (rs_sk gb nb (rs_sk gb nb (rs_sk gb nb pb + 1) + 1)) 6 hWF Tu (show mi f_175 u 4 = -1 ∧ 0 ≤ mi f_175 u 5 ∧ mi f_175 u 5 ≤ 6 ∧ 0 ≤ mi f_175 u 3 ∧ mi f_175 u 3 ≤ mi f_175 u 2 ∧ cdv f_175 G u ≤ mi f_175 u 3 by omega) (show mi f_175 u 2 = nb ∧ mi f_175 u 3 = (rs_sk gb nb (rs_sk gb nb (rs_sk gb nb pb + 1) + 1)) by omega) (show mi f_175 u 5 = 6 - ((6 : Nat) : Int) by omega) hMB) (cwV 0 G0.2.2.2.2 g_X12_clause_X12_condition_186 rfl rfl rfl (by decide +kernel) ⟨(Nat.le_of_ble_eq_true rfl), (Nat.le_of_ble_eq_true rfl)⟩) (py_preV hw (C := RX12) (T := TX12) (N := 54) rfl hr_188) rfl rfl hl.1 rfl (lv_room (Nat.le_of_ble_eq_true rfl)) dX12_clause_133 ⟨(Nat.le_of_ble_eq_true rfl), (Nat.le_of_ble_eq_true rfl)⟩) (fun L_469 f_470 H_471 locs hp_472 hw => ?_)
        obtain ⟨en_474, en_475, en_476, en_477, en_478, hWF, kp_479, fk_480⟩ := hp_472
        have hX9 := hX9.same (kp_f kp_479 (wt12_9 hG Tu) (by decide) (by decide) (fun _ => by decide))
        have hX10 := hX10.same (kp_f kp_479 (wt12_10 hG Tu) (by decide) (by decide) (fun _ => by decide))
        have hX11 := hX11.same (kp_f kp_479 (wt12_11 hG Tu) (by decide) (by decide) (fun _ => by decide))
        have hX12 := hX12.same (kp_f kp_479 (wt12_12 hG Tu) (by decide) (by decide) (fun _ => by decide))
        have hV10 := (arz_kp (kp_f kp_479 (wt12_10 hG Tu) (by decide) (by decide) (fun _ => by decide)) _).trans hV10
        have hMB := hMB.kp (kp_f kp_479 (wt12_1 hG Tu) (by decide) (by decide) (fun _ => by decide))
        have kq_481 := clv_k hG Tu kp_479 fk_480 (by decide)
        have hFK := hFK.trans fk_480 (by decide)
        have hKP := hKP.trans kp_479 (by decide) (by decide)
        obtain ⟨v_482, v_483, v_484, hr_485⟩ := fk_3_4_5 hWF Tu fk_480 hr_188
        have tq_486 := mi_row hr_485 2 rfl
        have tq_487 := mi_row hr_485 3 rfl
        have bv_482 := wf_free v_482
        have tq_488 := mi_row hr_485 4 rfl
        have bv_483 := wf_free v_483
        have tq_489 := mi_row hr_485 5 rfl
        have bv_484 := wf_free v_484
        have tq_490 := mi_row hr_485 14 rfl
        have h_164 := kp_at kp_479 hWF (wt12_10 hG Tu) (by decide) (by decide) (by decide) h_164
        have hTR : TR f f_470 G u (80) 0 1 := hTR.trans (en_476.lift (b := 0) (by omega) (by omega) (by omega) (by omega)) (fun q => by omega)
        have hRC : ∀ _ : Unit, _ ∧ _ := fun _ => ⟨en_477, en_478⟩
        clear en_477 en_478
        refine lv_goto (tgt := 183) G0.1 G0.2.1 dX12_clause_136 (by decide) ?_
        exact jn_183 1 L_469 f_470 _ _ ls ⟨by omega, by omega⟩ hWF hKP hX9 hX10 hX11 hX12 hMB hFK hTR hV10 (by first | omega | (intros; omega)) (by first | omega | (intros; omega)) (by first | omega | (intros; omega)) (fun ht hw => hCB.trans ((rs_bd_c (hH ())).trans ((rs_th_1 ((hRC ()).1 hw).1).trans (congrArg (rs_tl gb nb) ((hRC ()).1 hw).2.symm)))) (fun ht hw => absurd ht (by omega)) (fun hw => hCB.trans ((rs_bd_c (hH ())).trans ((rs_th_0 ((hRC ()).2 hw).1).trans (rs_w0 ((hRC ()).2 hw).1 ((hRC ()).2 hw).2)))) hw (lv_sub hl [1, 2, 0] rfl)
    · skip
      have tc_467 := ti_ne c_467
      refine lv_aload_n G0.1 G0.2.1 dX12_clause_113 rfl (lv_at hl 1 rfl) ?_
      refine py_calli hw (va_runV (As := []) (rest := []) G0 (c_X12_look l E G L_174 f_175 H_176.size u gb nb (rs_sk gb nb (rs_sk gb nb (rs_sk gb nb pb + 1) + 1)) hG hWF Tu (show 0 ≤ mi f_175 u 3 ∧ mi f_175 u 3 ≤ mi f_175 u 2 by omega) (show mi f_175 u 3 = (rs_sk gb nb (rs_sk gb nb (rs_sk gb nb pb + 1) + 1)) by omega) (show mi f_175 u 2 = nb ∧ 0 ≤ (rs_sk gb nb (rs_sk gb nb (rs_sk gb nb pb + 1) + 1)) by omega) hMB) (cwV 0 G0.2.2.2.2 g_X12_clause_X12_look_146 rfl rfl rfl (by decide +kernel) ⟨(Nat.le_of_ble_eq_true rfl), (Nat.le_of_ble_eq_true rfl)⟩) (py_preV hw (C := RX12) (T := TX12) (N := 54) rfl hr_188) rfl rfl hl.1 rfl (lv_room (Nat.le_of_ble_eq_true rfl)) dX12_clause_114 ⟨(Nat.le_of_ble_eq_true rfl), (Nat.le_of_ble_eq_true rfl)⟩) (fun r_495 L_491 f_492 H_493 locs hp_494 hw => ?_)
      obtain ⟨en_496, en_497, en_498, en_499, hWF, kp_500, fk_501⟩ := hp_494
      have hX9 := hX9.same (kp_f kp_500 (wt12_9 hG Tu) (by decide) (by decide) (fun _ => by decide))
      have hX10 := hX10.same (kp_f kp_500 (wt12_10 hG Tu) (by decide) (by decide) (fun _ => by decide))
      have hX11 := hX11.same (kp_f kp_500 (wt12_11 hG Tu) (by decide) (by decide) (fun _ => by decide))
      have hX12 := hX12.same (kp_f kp_500 (wt12_12 hG Tu) (by decide) (by decide) (fun _ => by decide))
      have hV10 := (arz_kp (kp_f kp_500 (wt12_10 hG Tu) (by decide) (by decide) (fun _ => by decide)) _).trans hV10
      have hMB := hMB.kp (kp_f kp_500 (wt12_1 hG Tu) (by decide) (by decide) (fun _ => by decide))
      have cq_502 := cdv_k hG Tu kp_500 fk_501 (by decide)
      have kq_503 := clv_k hG Tu kp_500 fk_501 (by decide)
      have hFK := hFK.trans fk_501 (by decide)
      have hKP := hKP.trans kp_500 (by decide) (by decide)
      obtain ⟨v_504, hr_505⟩ := fk_3 hWF Tu fk_501 hr_188
      have tq_506 := mi_row hr_505 2 rfl
      have tq_507 := mi_row hr_505 3 rfl
      have bv_504 := wf_free v_504
      have tq_508 := mi_row hr_505 4 rfl
      have bv_103 := wf_free v_103
      have tq_509 := mi_row hr_505 5 rfl
      have bv_104 := wf_free v_104
      have tq_510 := mi_row hr_505 14 rfl
      have h_164 := kp_at kp_500 hWF (wt12_10 hG Tu) (by decide) (by decide) (by decide) h_164
      have ha_154 := kp_at kp_500 hWF (wt12_8 hG Tu) (by decide) (by decide) (by decide) ha_154
      have hTR := hTR.kp hG Tu kp_500 fk_501 (by decide) (fun q => by omega)
      rw [rs_sk_idem] at en_499
      have br_495 := wf_free r_495
      refine lv_bipush (v := 40) G0.1 G0.2.1 dX12_clause_117 (by decide) ?_
      refine lv_icmp_ne (tgt := 126) G0.1 G0.2.1 dX12_clause_119 (by decide) (fun c_511 => ?_) (fun c_511 => ?_)
      · skip
        have tc_511 := ti_ne c_511
        refine lv_iconst (v := 0) G0.1 G0.2.1 dX12_clause_126 (by decide) ?_
        refine lv_istore_n (lv' := [(2, .int 0), (1, .int x_47), (0, .ref u)]) G0.1 G0.2.1 dX12_clause_127 rfl hl (by decide) rfl (fun ls hl => ?_)
        refine lv_iload_n G0.1 G0.2.1 dX12_clause_128 rfl (lv_at hl 0 rfl) ?_
        refine lv_if_eq (tgt := 139) G0.1 G0.2.1 dX12_clause_129 (by decide) (fun c_512 => ?_) (fun c_512 => ?_)
        · skip
          have tc_512 := ti_eq c_512
          have hH : ∀ _ : Unit, ¬ (rs_v gb nb (rs_sk gb nb (rs_sk gb nb (rs_sk gb nb pb + 1) + 1)) = 33 ∨ rs_v gb nb (rs_sk gb nb (rs_sk gb nb (rs_sk gb nb pb + 1) + 1)) = 40) := fun _ => by omega
          (try clear tc_511)
          (try clear tc_467)
          have hk105 := en_182.1
          clear en_182
          (try clear en_180)
          have hk114 := en_499.1
          clear en_499
          (try clear en_497)
          refine lv_aload_n G0.1 G0.2.1 dX12_clause_139 rfl (lv_at hl 2 rfl) ?_
          refine py_callv hw (va_runV (As := []) (rest := []) G0 (rq_sum l E G hG L_491 f_492 H_493.size u gb nb (rs_sk gb nb (rs_sk gb nb (rs_sk gb nb pb + 1) + 1)) 6 hWF Tu (show mi f_492 u 4 = -1 ∧ 0 ≤ mi f_492 u 5 ∧ mi f_492 u 5 ≤ 6 ∧ 0 ≤ mi f_492 u 3 ∧ mi f_492 u 3 ≤ mi f_492 u 2 ∧ cdv f_492 G u ≤ mi f_492 u 3 by omega) (show mi f_492 u 2 = nb ∧ mi f_492 u 3 = (rs_sk gb nb (rs_sk gb nb (rs_sk gb nb pb + 1) + 1)) by omega) (show mi f_492 u 5 = 6 - ((6 : Nat) : Int) by omega) hMB) (cwV 0 G0.2.2.2.2 g_X12_clause_X12_sum_167 rfl rfl rfl (by decide +kernel) ⟨(Nat.le_of_ble_eq_true rfl), (Nat.le_of_ble_eq_true rfl)⟩) (py_preV hw (C := RX12) (T := TX12) (N := 54) rfl hr_505) rfl rfl hl.1 rfl (lv_room (Nat.le_of_ble_eq_true rfl)) dX12_clause_140 ⟨(Nat.le_of_ble_eq_true rfl), (Nat.le_of_ble_eq_true rfl)⟩) (fun L_513 f_514 H_515 locs hp_516 hw => ?_)
          obtain ⟨en_518, en_519, en_520, en_521, en_522, hWF, kp_523, fk_524⟩ := hp_516
          have hX9 := hX9.same (kp_f kp_523 (wt12_9 hG Tu) (by decide) (by decide) (fun _ => by decide))
          have hX10 := hX10.same (kp_f kp_523 (wt12_10 hG Tu) (by decide) (by decide) (fun _ => by decide))
          have hX11 := hX11.same (kp_f kp_523 (wt12_11 hG Tu) (by decide) (by decide) (fun _ => by decide))
          have hX12 := hX12.same (kp_f kp_523 (wt12_12 hG Tu) (by decide) (by decide) (fun _ => by decide))
          have hV10 := (arz_kp (kp_f kp_523 (wt12_10 hG Tu) (by decide) (by decide) (fun _ => by decide)) _).trans hV10
          have hMB := hMB.kp (kp_f kp_523 (wt12_1 hG Tu) (by decide) (by decide) (fun _ => by decide))
          have kq_525 := clv_k hG Tu kp_523 fk_524 (by decide)
          have hFK := hFK.trans fk_524 (by decide)
          have hKP := hKP.trans kp_523 (by decide) (by decide)
          obtain ⟨v_526, v_527, v_528, hr_529⟩ := fk_3_4_5 hWF Tu fk_524 hr_505
          have tq_530 := mi_row hr_529 2 rfl
          have tq_531 := mi_row hr_529 3 rfl
          have bv_526 := wf_free v_526
          have tq_532 := mi_row hr_529 4 rfl
          have bv_527 := wf_free v_527
          have tq_533 := mi_row hr_529 5 rfl
          have bv_528 := wf_free v_528
          have tq_534 := mi_row hr_529 14 rfl
          have h_164 := kp_at kp_523 hWF (wt12_10 hG Tu) (by decide) (by decide) (by decide) h_164
          have hTR : TR f f_514 G u (80) 0 1 := hTR.trans (en_520.lift (b := 0) (by omega) (by omega) (by omega) (by omega)) (fun q => by omega)
          refine lv_aload_n G0.1 G0.2.1 dX12_clause_143 rfl (lv_at hl 2 rfl) ?_
          refine py_get (C := RX12) (T := TX12) (N := 54) (k := 4) (v := .int v_527) G0 hw in_X12_clause_X12 rfl hr_529 (by decide) (by decide +kernel) rfl dX12_clause_144 ?_
          refine lv_iconst (v := (-1)) G0.1 G0.2.1 dX12_clause_147 (by decide) ?_
          refine lv_icmp_ne (tgt := 165) G0.1 G0.2.1 dX12_clause_148 (by decide) (fun c_535 => ?_) (fun c_535 => ?_)
          · skip
            have tc_535 := ti_ne c_535
            clear en_519
            clear en_521
            replace en_522 := en_522 (by omega)
            refine lv_iconst (v := 0) G0.1 G0.2.1 dX12_clause_165 (by decide) ?_
            refine lv_istore_n (lv' := [(2, .int 0), (1, .int x_47), (0, .ref u)]) G0.1 G0.2.1 dX12_clause_166 rfl hl (by decide) rfl (fun ls hl => ?_)
            refine lv_iload_n G0.1 G0.2.1 dX12_clause_167 rfl (lv_at hl 0 rfl) ?_
            refine lv_if_eq (tgt := 183) G0.1 G0.2.1 dX12_clause_168 (by decide) (fun c_536 => ?_) (fun c_536 => ?_)
            · skip
              have tc_536 := ti_eq c_536
              exact jn_183 0 L_513 f_514 _ _ ls ⟨by omega, by omega⟩ hWF hKP hX9 hX10 hX11 hX12 hMB hFK hTR hV10 (by first | omega | (intros; omega)) (by first | omega | (intros; omega)) (by first | omega | (intros; omega)) (fun ht hw => absurd ht (by omega)) (fun ht hw => absurd hw (by omega)) (fun hw => hCB.trans ((rs_bd_s (hH ())).trans ((rs_th_0 en_522.1).trans (rs_w0 en_522.1 (by omega))))) hw (lv_sub hl [1, 2, 0] rfl)
            · skip
              exact absurd c_536 (by decide)
          · skip
            have tc_535 := ti_eq c_535
            replace en_519 := en_519 (by omega)
            replace en_521 := en_521 (by omega)
            clear en_522
            refine lv_aload_n G0.1 G0.2.1 dX12_clause_151 rfl (lv_at hl 2 rfl) ?_
            refine py_calli hw (va_runV (As := []) (rest := []) G0 (c_X12_look l E G L_513 f_514 H_515.size u gb nb (rs_sm gb nb 6 (rs_sk gb nb (rs_sk gb nb (rs_sk gb nb pb + 1) + 1))).2 hG hWF Tu (show 0 ≤ mi f_514 u 3 ∧ mi f_514 u 3 ≤ mi f_514 u 2 by omega) (show mi f_514 u 3 = (rs_sm gb nb 6 (rs_sk gb nb (rs_sk gb nb (rs_sk gb nb pb + 1) + 1))).2 by omega) (show mi f_514 u 2 = nb ∧ 0 ≤ (rs_sm gb nb 6 (rs_sk gb nb (rs_sk gb nb (rs_sk gb nb pb + 1) + 1))).2 by omega) hMB) (cwV 0 G0.2.2.2.2 g_X12_clause_X12_look_146 rfl rfl rfl (by decide +kernel) ⟨(Nat.le_of_ble_eq_true rfl), (Nat.le_of_ble_eq_true rfl)⟩) (py_preV hw (C := RX12) (T := TX12) (N := 54) rfl hr_529) rfl rfl hl.1 rfl (lv_room (Nat.le_of_ble_eq_true rfl)) dX12_clause_152 ⟨(Nat.le_of_ble_eq_true rfl), (Nat.le_of_ble_eq_true rfl)⟩) (fun r_541 L_537 f_538 H_539 locs hp_540 hw => ?_)
            obtain ⟨en_542, en_543, en_544, en_545, hWF, kp_546, fk_547⟩ := hp_540
            have hX9 := hX9.same (kp_f kp_546 (wt12_9 hG Tu) (by decide) (by decide) (fun _ => by decide))
            have hX10 := hX10.same (kp_f kp_546 (wt12_10 hG Tu) (by decide) (by decide) (fun _ => by decide))
            have hX11 := hX11.same (kp_f kp_546 (wt12_11 hG Tu) (by decide) (by decide) (fun _ => by decide))
            have hX12 := hX12.same (kp_f kp_546 (wt12_12 hG Tu) (by decide) (by decide) (fun _ => by decide))
            have hV10 := (arz_kp (kp_f kp_546 (wt12_10 hG Tu) (by decide) (by decide) (fun _ => by decide)) _).trans hV10
            have hMB := hMB.kp (kp_f kp_546 (wt12_1 hG Tu) (by decide) (by decide) (fun _ => by decide))
            have cq_548 := cdv_k hG Tu kp_546 fk_547 (by decide)
            have kq_549 := clv_k hG Tu kp_546 fk_547 (by decide)
            have hFK := hFK.trans fk_547 (by decide)
            have hKP := hKP.trans kp_546 (by decide) (by decide)
            obtain ⟨v_550, hr_551⟩ := fk_3 hWF Tu fk_547 hr_529
            have tq_552 := mi_row hr_551 2 rfl
            have tq_553 := mi_row hr_551 3 rfl
            have bv_550 := wf_free v_550
            have tq_554 := mi_row hr_551 4 rfl
            have bv_527 := wf_free v_527
            have tq_555 := mi_row hr_551 5 rfl
            have bv_528 := wf_free v_528
            have tq_556 := mi_row hr_551 14 rfl
            have h_164 := kp_at kp_546 hWF (wt12_10 hG Tu) (by decide) (by decide) (by decide) h_164
            have hTR := hTR.kp hG Tu kp_546 fk_547 (by decide) (fun q => by omega)
            have br_541 := wf_free r_541
            refine py_calli hw (va_runS (As := [.int r_541]) (rest := []) G0 (c_X12_isSign l E G L_537 f_538 H_539.size r_541 hG hWF) (va_cwS 1 G0.2.2.2.2 g_X12_clause_X12_isSign_180 rfl rfl rfl (by decide +kernel) ⟨(Nat.le_of_ble_eq_true rfl), (Nat.le_of_ble_eq_true rfl)⟩) (py_preS hw) rfl rfl hl.1 rfl (lv_room (Nat.le_of_ble_eq_true rfl)) dX12_clause_155 ⟨(Nat.le_of_ble_eq_true rfl), (Nat.le_of_ble_eq_true rfl)⟩) (fun r_561 L_557 f_558 H_559 locs hp_560 hw => ?_)
            obtain ⟨b_564, en_562, en_563, rfl, rfl⟩ := hp_560
            refine lv_if_eq (tgt := 165) G0.1 G0.2.1 dX12_clause_158 (by decide) (fun c_565 => ?_) (fun c_565 => ?_)
            · skip
              have tc_565 := ti_eq c_565
              clear en_562
              replace en_563 := en_563 (by omega)
              have hSM := en_521
              have hS : ∀ _ : Unit, ¬ (rs_v gb nb (rs_sk gb nb (rs_sm gb nb 6 (rs_sk gb nb (rs_sk gb nb (rs_sk gb nb pb + 1) + 1))).2) = 61 ∨ rs_v gb nb (rs_sk gb nb (rs_sm gb nb 6 (rs_sk gb nb (rs_sk gb nb (rs_sk gb nb pb + 1) + 1))).2) = 60 ∨ rs_v gb nb (rs_sk gb nb (rs_sm gb nb 6 (rs_sk gb nb (rs_sk gb nb (rs_sk gb nb pb + 1) + 1))).2) = 62) := fun _ => by omega
              (try clear tc_565)
              have hk152 := en_545.1
              clear en_545
              (try clear en_543)
              (try clear en_562)
              (try clear en_563)
              refine lv_iconst (v := 0) G0.1 G0.2.1 dX12_clause_165 (by decide) ?_
              refine lv_istore_n (lv' := [(2, .int 0), (1, .int x_47), (0, .ref u)]) G0.1 G0.2.1 dX12_clause_166 rfl hl (by decide) rfl (fun ls hl => ?_)
              refine lv_iload_n G0.1 G0.2.1 dX12_clause_167 rfl (lv_at hl 0 rfl) ?_
              refine lv_if_eq (tgt := 183) G0.1 G0.2.1 dX12_clause_168 (by decide) (fun c_566 => ?_) (fun c_566 => ?_)
              · skip
                have tc_566 := ti_eq c_566
                exact jn_183 0 L_537 f_538 _ _ ls ⟨by omega, by omega⟩ hWF hKP hX9 hX10 hX11 hX12 hMB hFK hTR hV10 (by first | omega | (intros; omega)) (by first | omega | (intros; omega)) (by first | omega | (intros; omega)) (fun ht hw => absurd ht (by omega)) (fun ht hw => hCB.trans ((rs_bd_s (hH ())).trans ((rs_th_1 hSM.1).trans ((rs_sc_0 (hS ())).trans (rs_p1 (by omega)))))) (fun hw => absurd (show mi f_538 u 4 = -1 by omega) hw) hw (lv_sub hl [1, 2, 0] rfl)
              · skip
                exact absurd c_566 (by decide)
            · skip
              have tc_565 := ti_ne c_565
              replace en_562 := en_562 (by omega)
              clear en_563
              refine lv_iconst (v := 1) G0.1 G0.2.1 dX12_clause_161 (by decide) ?_
              refine lv_goto (tgt := 166) G0.1 G0.2.1 dX12_clause_162 (by decide) ?_
              refine lv_istore_n (lv' := [(2, .int 1), (1, .int x_47), (0, .ref u)]) G0.1 G0.2.1 dX12_clause_166 rfl hl (by decide) rfl (fun ls hl => ?_)
              refine lv_iload_n G0.1 G0.2.1 dX12_clause_167 rfl (lv_at hl 0 rfl) ?_
              refine lv_if_eq (tgt := 183) G0.1 G0.2.1 dX12_clause_168 (by decide) (fun c_567 => ?_) (fun c_567 => ?_)
              · skip
                exact absurd c_567 (by decide)
              · skip
                have tc_567 := ti_ne c_567
                have hSM := en_521
                have hS : ∀ _ : Unit, rs_v gb nb (rs_sk gb nb (rs_sm gb nb 6 (rs_sk gb nb (rs_sk gb nb (rs_sk gb nb pb + 1) + 1))).2) = 61 ∨ rs_v gb nb (rs_sk gb nb (rs_sm gb nb 6 (rs_sk gb nb (rs_sk gb nb (rs_sk gb nb pb + 1) + 1))).2) = 60 ∨ rs_v gb nb (rs_sk gb nb (rs_sm gb nb 6 (rs_sk gb nb (rs_sk gb nb (rs_sk gb nb pb + 1) + 1))).2) = 62 := fun _ => by omega
                (try clear tc_565)
                have hk152 := en_545.1
                clear en_545
                (try clear en_543)
                (try clear en_562)
                (try clear en_563)
                refine lv_aload_n G0.1 G0.2.1 dX12_clause_171 rfl (lv_at hl 2 rfl) ?_
                refine py_callv hw (va_runV (As := []) (rest := []) G0 (rq_compare l E G hG L_537 f_538 H_559.size u gb nb 6 (rs_sk gb nb (rs_sm gb nb 6 (rs_sk gb nb (rs_sk gb nb (rs_sk gb nb pb + 1) + 1))).2) hWF Tu (show mi f_538 u 4 = -1 ∧ 0 ≤ mi f_538 u 5 ∧ mi f_538 u 5 ≤ 6 ∧ 0 ≤ mi f_538 u 3 ∧ mi f_538 u 3 ≤ mi f_538 u 2 ∧ cdv f_538 G u ≤ mi f_538 u 3 by omega) (show mi f_538 u 2 = nb ∧ mi f_538 u 3 = (rs_sk gb nb (rs_sm gb nb 6 (rs_sk gb nb (rs_sk gb nb (rs_sk gb nb pb + 1) + 1))).2) by omega) (show mi f_538 u 5 = 6 - ((6 : Nat) : Int) by omega) hMB) (cwV 0 G0.2.2.2.2 g_X12_clause_X12_compare_189 rfl rfl rfl (by decide +kernel) ⟨(Nat.le_of_ble_eq_true rfl), (Nat.le_of_ble_eq_true rfl)⟩) (py_preV hw (C := RX12) (T := TX12) (N := 54) rfl hr_551) rfl rfl hl.1 rfl (lv_room (Nat.le_of_ble_eq_true rfl)) dX12_clause_172 ⟨(Nat.le_of_ble_eq_true rfl), (Nat.le_of_ble_eq_true rfl)⟩) (fun L_568 f_569 H_570 locs hp_571 hw => ?_)
                obtain ⟨en_573, en_574, en_575, en_576, en_577, en_578, en_579, hWF, kp_580, fk_581⟩ := hp_571
                have hX9 := hX9.same (kp_f kp_580 (wt12_9 hG Tu) (by decide) (by decide) (fun _ => by decide))
                have hX10 := hX10.same (kp_f kp_580 (wt12_10 hG Tu) (by decide) (by decide) (fun _ => by decide))
                have hX11 := hX11.same (kp_f kp_580 (wt12_11 hG Tu) (by decide) (by decide) (fun _ => by decide))
                have hX12 := hX12.same (kp_f kp_580 (wt12_12 hG Tu) (by decide) (by decide) (fun _ => by decide))
                have hV10 := (arz_kp (kp_f kp_580 (wt12_10 hG Tu) (by decide) (by decide) (fun _ => by decide)) _).trans hV10
                have hMB := hMB.kp (kp_f kp_580 (wt12_1 hG Tu) (by decide) (by decide) (fun _ => by decide))
                have kq_582 := clv_k hG Tu kp_580 fk_581 (by decide)
                have hFK := hFK.trans fk_581 (by decide)
                have hKP := hKP.trans kp_580 (by decide) (by decide)
                obtain ⟨v_583, v_584, v_585, hr_586⟩ := fk_3_4_5 hWF Tu fk_581 hr_551
                have tq_587 := mi_row hr_586 2 rfl
                have tq_588 := mi_row hr_586 3 rfl
                have bv_583 := wf_free v_583
                have tq_589 := mi_row hr_586 4 rfl
                have bv_584 := wf_free v_584
                have tq_590 := mi_row hr_586 5 rfl
                have bv_585 := wf_free v_585
                have tq_591 := mi_row hr_586 14 rfl
                have h_164 := kp_at kp_580 hWF (wt12_10 hG Tu) (by decide) (by decide) (by decide) h_164
                have hTR : TR f f_569 G u (80) 0 1 := hTR.trans (en_577.lift (b := 0) (by omega) (by omega) (by omega) (by omega)) (fun q => by omega)
                have hRP : ∀ _ : Unit, _ ∧ _ := fun _ => ⟨en_578, en_579⟩
                clear en_578 en_579
                replace en_574 := en_574 (by omega)
                clear en_575
                have g_hRP : mi f_569 u 4 = -1 → mi f_569 u 5 = 0 ∧ mi f_569 u 3 ≤ mi f_569 u 2 := fun z => by have y := en_576 z; omega
                clear en_576
                refine lv_aload_n G0.1 G0.2.1 dX12_clause_175 rfl (lv_at hl 2 rfl) ?_
                refine py_callv hw (va_runV (As := []) (rest := []) G0 (rq_goOnAnd l E G hG L_568 f_569 H_570.size u gb nb 6 (rs_cmp gb nb 6 (rs_sk gb nb (rs_sm gb nb 6 (rs_sk gb nb (rs_sk gb nb (rs_sk gb nb pb + 1) + 1))).2)) hWF Tu (show (mi f_569 u 4 = -1 → 0 ≤ mi f_569 u 5 ∧ mi f_569 u 5 ≤ 6 ∧ mi f_569 u 3 ≤ mi f_569 u 2) ∧ 0 ≤ mi f_569 u 3 ∧ cdv f_569 G u ≤ mi f_569 u 3 by omega) (show mi f_569 u 2 = nb by omega) (show mi f_569 u 4 = -1 → mi f_569 u 5 = 6 - ((6 : Nat) : Int) by omega) (hRP ()) hMB) (cwV 0 G0.2.2.2.2 g_X12_clause_X12_goOnAnd_192 rfl rfl rfl (by decide +kernel) ⟨(Nat.le_of_ble_eq_true rfl), (Nat.le_of_ble_eq_true rfl)⟩) (py_preV hw (C := RX12) (T := TX12) (N := 54) rfl hr_586) rfl rfl hl.1 rfl (lv_room (Nat.le_of_ble_eq_true rfl)) dX12_clause_176 ⟨(Nat.le_of_ble_eq_true rfl), (Nat.le_of_ble_eq_true rfl)⟩) (fun L_592 f_593 H_594 locs hp_595 hw => ?_)
                obtain ⟨en_597, en_598, en_599, en_600, en_601, en_602, en_603, hWF, kp_604, fk_605⟩ := hp_595
                have hX9 := hX9.same (kp_f kp_604 (wt12_9 hG Tu) (by decide) (by decide) (fun _ => by decide))
                have hX10 := hX10.same (kp_f kp_604 (wt12_10 hG Tu) (by decide) (by decide) (fun _ => by decide))
                have hX11 := hX11.same (kp_f kp_604 (wt12_11 hG Tu) (by decide) (by decide) (fun _ => by decide))
                have hX12 := hX12.same (kp_f kp_604 (wt12_12 hG Tu) (by decide) (by decide) (fun _ => by decide))
                have hV10 := (arz_kp (kp_f kp_604 (wt12_10 hG Tu) (by decide) (by decide) (fun _ => by decide)) _).trans hV10
                have hMB := hMB.kp (kp_f kp_604 (wt12_1 hG Tu) (by decide) (by decide) (fun _ => by decide))
                have kq_606 := clv_k hG Tu kp_604 fk_605 (by decide)
                have hFK := hFK.trans fk_605 (by decide)
                have hKP := hKP.trans kp_604 (by decide) (by decide)
                obtain ⟨v_607, v_608, v_609, hr_610⟩ := fk_3_4_5 hWF Tu fk_605 hr_586
                have tq_611 := mi_row hr_610 2 rfl
                have tq_612 := mi_row hr_610 3 rfl
                have bv_607 := wf_free v_607
                have tq_613 := mi_row hr_610 4 rfl
                have bv_608 := wf_free v_608
                have tq_614 := mi_row hr_610 5 rfl
                have bv_609 := wf_free v_609
                have tq_615 := mi_row hr_610 14 rfl
                have h_164 := kp_at kp_604 hWF (wt12_10 hG Tu) (by decide) (by decide) (by decide) h_164
                have hTR : TR f f_593 G u (80) 0 1 := hTR.trans (en_601.lift (b := 0) (by omega) (by omega) (by omega) (by omega)) (fun q => by omega)
                have hRA : ∀ _ : Unit, _ ∧ _ := fun _ => ⟨en_602, en_603⟩
                clear en_602 en_603
                have h_hRA : mi f_593 u 3 ≤ 167 := by rcases Decidable.em (mi f_569 u 4 = -1) with z | z; (have y1 := en_598 z; have y2 := g_hRP z; omega); (have y1 := en_599 z; omega)
                have g_hRA : mi f_593 u 4 = -1 → mi f_593 u 5 = 0 ∧ mi f_593 u 3 ≤ mi f_593 u 2 := fun z => by have zc : mi f_569 u 4 = -1 := Decidable.byContradiction (fun q => (en_599 q).2 z); have y := en_600 z; have y2 := g_hRP zc; omega
                clear en_598 en_599 en_600 g_hRP
                refine lv_aload_n G0.1 G0.2.1 dX12_clause_179 rfl (lv_at hl 2 rfl) ?_
                refine py_callv hw (va_runV (As := []) (rest := []) G0 (rq_goOnOr l E G hG L_592 f_593 H_594.size u gb nb 6 (rs_af (rs_un gb nb 6) 1 gb nb (rs_cmp gb nb 6 (rs_sk gb nb (rs_sm gb nb 6 (rs_sk gb nb (rs_sk gb nb (rs_sk gb nb pb + 1) + 1))).2))) hWF Tu (show (mi f_593 u 4 = -1 → 0 ≤ mi f_593 u 5 ∧ mi f_593 u 5 ≤ 6 ∧ mi f_593 u 3 ≤ mi f_593 u 2) ∧ 0 ≤ mi f_593 u 3 ∧ cdv f_593 G u ≤ mi f_593 u 3 by omega) (show mi f_593 u 2 = nb by omega) (show mi f_593 u 4 = -1 → mi f_593 u 5 = 6 - ((6 : Nat) : Int) by omega) (hRA ()) hMB) (cwV 0 G0.2.2.2.2 g_X12_clause_X12_goOnOr_195 rfl rfl rfl (by decide +kernel) ⟨(Nat.le_of_ble_eq_true rfl), (Nat.le_of_ble_eq_true rfl)⟩) (py_preV hw (C := RX12) (T := TX12) (N := 54) rfl hr_610) rfl rfl hl.1 rfl (lv_room (Nat.le_of_ble_eq_true rfl)) dX12_clause_180 ⟨(Nat.le_of_ble_eq_true rfl), (Nat.le_of_ble_eq_true rfl)⟩) (fun L_616 f_617 H_618 locs hp_619 hw => ?_)
                obtain ⟨en_621, en_622, en_623, en_624, en_625, en_626, en_627, hWF, kp_628, fk_629⟩ := hp_619
                have hX9 := hX9.same (kp_f kp_628 (wt12_9 hG Tu) (by decide) (by decide) (fun _ => by decide))
                have hX10 := hX10.same (kp_f kp_628 (wt12_10 hG Tu) (by decide) (by decide) (fun _ => by decide))
                have hX11 := hX11.same (kp_f kp_628 (wt12_11 hG Tu) (by decide) (by decide) (fun _ => by decide))
                have hX12 := hX12.same (kp_f kp_628 (wt12_12 hG Tu) (by decide) (by decide) (fun _ => by decide))
                have hV10 := (arz_kp (kp_f kp_628 (wt12_10 hG Tu) (by decide) (by decide) (fun _ => by decide)) _).trans hV10
                have hMB := hMB.kp (kp_f kp_628 (wt12_1 hG Tu) (by decide) (by decide) (fun _ => by decide))
                have kq_630 := clv_k hG Tu kp_628 fk_629 (by decide)
                have hFK := hFK.trans fk_629 (by decide)
                have hKP := hKP.trans kp_628 (by decide) (by decide)
                obtain ⟨v_631, v_632, v_633, hr_634⟩ := fk_3_4_5 hWF Tu fk_629 hr_610
                have tq_635 := mi_row hr_634 2 rfl
                have tq_636 := mi_row hr_634 3 rfl
                have bv_631 := wf_free v_631
                have tq_637 := mi_row hr_634 4 rfl
                have bv_632 := wf_free v_632
                have tq_638 := mi_row hr_634 5 rfl
                have bv_633 := wf_free v_633
                have tq_639 := mi_row hr_634 14 rfl
                have h_164 := kp_at kp_628 hWF (wt12_10 hG Tu) (by decide) (by decide) (by decide) h_164
                have hTR : TR f f_617 G u (80) 0 1 := hTR.trans (en_625.lift (b := 0) (by omega) (by omega) (by omega) (by omega)) (fun q => by omega)
                have hRO : ∀ _ : Unit, _ ∧ _ := fun _ => ⟨en_626, en_627⟩
                clear en_626 en_627
                have h_hRO : mi f_617 u 3 ≤ 167 := by rcases Decidable.em (mi f_593 u 4 = -1) with z | z; (have y1 := en_622 z; have y2 := g_hRA z; omega); (have y1 := en_623 z; omega)
                have g_hRO : mi f_617 u 4 = -1 → mi f_617 u 5 = 0 ∧ mi f_617 u 3 ≤ mi f_617 u 2 := fun z => by have zc : mi f_593 u 4 = -1 := Decidable.byContradiction (fun q => (en_623 q).2 z); have y := en_624 z; have y2 := g_hRA zc; omega
                clear en_622 en_623 en_624 g_hRA
                exact jn_183 1 L_616 f_617 _ _ ls ⟨by omega, by omega⟩ hWF hKP hX9 hX10 hX11 hX12 hMB hFK hTR hV10 (by first | omega | (intros; omega)) (by first | omega | (intros; omega)) (by first | omega | (intros; omega)) (fun ht hw => hCB.trans ((rs_bd_s (hH ())).trans ((rs_th_1 hSM.1).trans ((rs_sc_w (hS ())).trans ((rs_th_1 ((hRO ()).1 hw).1).trans (congrArg (rs_tl gb nb) ((hRO ()).1 hw).2.symm)))))) (fun ht hw => absurd ht (by omega)) (fun hw => hCB.trans ((rs_bd_s (hH ())).trans ((rs_th_1 hSM.1).trans ((rs_sc_w (hS ())).trans ((rs_th_0 ((hRO ()).2 hw).1).trans (rs_w0 ((hRO ()).2 hw).1 ((hRO ()).2 hw).2)))))) hw (lv_sub hl [1, 2, 0] rfl)
        · skip
          exact absurd c_512 (by decide)
      · skip
        have tc_511 := ti_eq c_511
        replace en_497 := en_497 (by omega)
        refine lv_iconst (v := 1) G0.1 G0.2.1 dX12_clause_122 (by decide) ?_
        refine lv_goto (tgt := 127) G0.1 G0.2.1 dX12_clause_123 (by decide) ?_
        refine lv_istore_n (lv' := [(2, .int 1), (1, .int x_47), (0, .ref u)]) G0.1 G0.2.1 dX12_clause_127 rfl hl (by decide) rfl (fun ls hl => ?_)
        refine lv_iload_n G0.1 G0.2.1 dX12_clause_128 rfl (lv_at hl 0 rfl) ?_
        refine lv_if_eq (tgt := 139) G0.1 G0.2.1 dX12_clause_129 (by decide) (fun c_640 => ?_) (fun c_640 => ?_)
        · skip
          exact absurd c_640 (by decide)
        · skip
          have tc_640 := ti_ne c_640
          have hH : ∀ _ : Unit, rs_v gb nb (rs_sk gb nb (rs_sk gb nb (rs_sk gb nb pb + 1) + 1)) = 33 ∨ rs_v gb nb (rs_sk gb nb (rs_sk gb nb (rs_sk gb nb pb + 1) + 1)) = 40 := fun _ => by omega
          (try clear tc_511)
          (try clear tc_467)
          have hk105 := en_182.1
          clear en_182
          (try clear en_180)
          have hk114 := en_499.1
          clear en_499
          (try clear en_497)
          refine lv_aload_n G0.1 G0.2.1 dX12_clause_132 rfl (lv_at hl 2 rfl) ?_
          refine py_callv hw (va_runV (As := []) (rest := []) G0 (rq_condition l E G hG L_491 f_492 H_493.size u gb nb (rs_sk gb nb (rs_sk gb nb (rs_sk gb nb pb + 1) + 1)) 6 hWF Tu (show mi f_492 u 4 = -1 ∧ 0 ≤ mi f_492 u 5 ∧ mi f_492 u 5 ≤ 6 ∧ 0 ≤ mi f_492 u 3 ∧ mi f_492 u 3 ≤ mi f_492 u 2 ∧ cdv f_492 G u ≤ mi f_492 u 3 by omega) (show mi f_492 u 2 = nb ∧ mi f_492 u 3 = (rs_sk gb nb (rs_sk gb nb (rs_sk gb nb pb + 1) + 1)) by omega) (show mi f_492 u 5 = 6 - ((6 : Nat) : Int) by omega) hMB) (cwV 0 G0.2.2.2.2 g_X12_clause_X12_condition_186 rfl rfl rfl (by decide +kernel) ⟨(Nat.le_of_ble_eq_true rfl), (Nat.le_of_ble_eq_true rfl)⟩) (py_preV hw (C := RX12) (T := TX12) (N := 54) rfl hr_505) rfl rfl hl.1 rfl (lv_room (Nat.le_of_ble_eq_true rfl)) dX12_clause_133 ⟨(Nat.le_of_ble_eq_true rfl), (Nat.le_of_ble_eq_true rfl)⟩) (fun L_641 f_642 H_643 locs hp_644 hw => ?_)
          obtain ⟨en_646, en_647, en_648, en_649, en_650, hWF, kp_651, fk_652⟩ := hp_644
          have hX9 := hX9.same (kp_f kp_651 (wt12_9 hG Tu) (by decide) (by decide) (fun _ => by decide))
          have hX10 := hX10.same (kp_f kp_651 (wt12_10 hG Tu) (by decide) (by decide) (fun _ => by decide))
          have hX11 := hX11.same (kp_f kp_651 (wt12_11 hG Tu) (by decide) (by decide) (fun _ => by decide))
          have hX12 := hX12.same (kp_f kp_651 (wt12_12 hG Tu) (by decide) (by decide) (fun _ => by decide))
          have hV10 := (arz_kp (kp_f kp_651 (wt12_10 hG Tu) (by decide) (by decide) (fun _ => by decide)) _).trans hV10
          have hMB := hMB.kp (kp_f kp_651 (wt12_1 hG Tu) (by decide) (by decide) (fun _ => by decide))
          have kq_653 := clv_k hG Tu kp_651 fk_652 (by decide)
          have hFK := hFK.trans fk_652 (by decide)
          have hKP := hKP.trans kp_651 (by decide) (by decide)
          obtain ⟨v_654, v_655, v_656, hr_657⟩ := fk_3_4_5 hWF Tu fk_652 hr_505
          have tq_658 := mi_row hr_657 2 rfl
          have tq_659 := mi_row hr_657 3 rfl
          have bv_654 := wf_free v_654
          have tq_660 := mi_row hr_657 4 rfl
          have bv_655 := wf_free v_655
          have tq_661 := mi_row hr_657 5 rfl
          have bv_656 := wf_free v_656
          have tq_662 := mi_row hr_657 14 rfl
          have h_164 := kp_at kp_651 hWF (wt12_10 hG Tu) (by decide) (by decide) (by decide) h_164
          have hTR : TR f f_642 G u (80) 0 1 := hTR.trans (en_648.lift (b := 0) (by omega) (by omega) (by omega) (by omega)) (fun q => by omega)
          have hRC : ∀ _ : Unit, _ ∧ _ := fun _ => ⟨en_649, en_650⟩
          clear en_649 en_650
          refine lv_goto (tgt := 183) G0.1 G0.2.1 dX12_clause_136 (by decide) ?_
          exact jn_183 1 L_641 f_642 _ _ ls ⟨by omega, by omega⟩ hWF hKP hX9 hX10 hX11 hX12 hMB hFK hTR hV10 (by first | omega | (intros; omega)) (by first | omega | (intros; omega)) (by first | omega | (intros; omega)) (fun ht hw => hCB.trans ((rs_bd_c (hH ())).trans ((rs_th_1 ((hRC ()).1 hw).1).trans (congrArg (rs_tl gb nb) ((hRC ()).1 hw).2.symm)))) (fun ht hw => absurd ht (by omega)) (fun hw => hCB.trans ((rs_bd_c (hH ())).trans ((rs_th_0 ((hRC ()).2 hw).1).trans (rs_w0 ((hRC ()).2 hw).1 ((hRC ()).2 hw).2)))) hw (lv_sub hl [1, 2, 0] rfl)
  · skip
    have tc_152 := ti_ne c_152
    exact py_vret G0 hr hlk hw ⟨(by first | omega | (intro q; omega)), (by first | omega | (intro q; omega)), (by first | omega | (intro q; omega)), ⟨hTR.tp, hX10, hX11, hX12, hX9, by omega⟩, (fun hw => by first | exact absurd hw (by omega) | exact ⟨co_a hTR hw (by omega) (by omega) (by omega) (by omega), by omega⟩), (fun hw => absurd hw (by omega)), (by intro hw; rcases jv4 with z | z | z; (exfalso; omega); (have hE : (rs_ca gb nb pb) = (0, rs_sk gb nb pb) := rs_ca_y z.2; rw [hE]; exact ⟨rfl, (show mi f_141 u 4 = rs_sk gb nb pb by omega)⟩); (have hE : (rs_ca gb nb pb) = (0, rs_sk gb nb (rs_sk gb nb pb + 1)) := rs_ca_d z.2.1 z.2.2; rw [hE]; exact ⟨rfl, (show mi f_141 u 4 = rs_sk gb nb (rs_sk gb nb pb + 1) by omega)⟩)), hWF, hKP, hFK⟩ dX12_clause_88
