theorem dJ7_fill_d0a16_0 : decode cJ7_fill_d0a16 0 = .ok (.iconst 0, 1) := by decide +kernel
theorem dJ7_fill_d0a16_1 : decode cJ7_fill_d0a16 1 = .ok (.istore_n 3, 1) := by decide +kernel
theorem dJ7_fill_d0a16_2 : decode cJ7_fill_d0a16 2 = .ok (.aload_n 0, 1) := by decide +kernel
theorem dJ7_fill_d0a16_3 : decode cJ7_fill_d0a16 3 = .ok (.arraylength, 1) := by decide +kernel
theorem dJ7_fill_d0a16_4 : decode cJ7_fill_d0a16 4 = .ok (.istore 4, 2) := by decide +kernel
theorem dJ7_fill_d0a16_6 : decode cJ7_fill_d0a16 6 = .ok (.iload_n 3, 1) := by decide +kernel
theorem dJ7_fill_d0a16_7 : decode cJ7_fill_d0a16 7 = .ok (.iload 4, 2) := by decide +kernel
theorem dJ7_fill_d0a16_9 : decode cJ7_fill_d0a16 9 = .ok (.if_icmp .ge 13, 3) := by decide +kernel
theorem dJ7_fill_d0a16_12 : decode cJ7_fill_d0a16 12 = .ok (.aload_n 0, 1) := by decide +kernel
theorem dJ7_fill_d0a16_13 : decode cJ7_fill_d0a16 13 = .ok (.iload_n 3, 1) := by decide +kernel
theorem dJ7_fill_d0a16_14 : decode cJ7_fill_d0a16 14 = .ok (.lload_n 1, 1) := by decide +kernel
theorem dJ7_fill_d0a16_15 : decode cJ7_fill_d0a16 15 = .ok (.lastore, 1) := by decide +kernel
theorem dJ7_fill_d0a16_16 : decode cJ7_fill_d0a16 16 = .ok (.iinc 3 1, 3) := by decide +kernel
theorem dJ7_fill_d0a16_19 : decode cJ7_fill_d0a16 19 = .ok (.goto (-13), 3) := by decide +kernel
theorem dJ7_fill_d0a16_22 : decode cJ7_fill_d0a16 22 = .ok (.return_, 1) := by decide +kernel
def w_J7_fill_d0a16 : List Cond := .code yJ7_fill_d0a16 cJ7_fill_d0a16 5 none :: ([] ++ ([]))
set_option maxHeartbeats 4000000 in
set_option maxRecDepth 100000 in
theorem c_J7_fill_d0a1634 (l : Launch) (E : py_E) (G : wf_G) (L : List Nat) (f : py_F) (sz : Nat) (a : Nat) (v : Int64) (hG : GT G) (hWF : WF E G L f) (Ta : G.1 a = 34) : Met l yJ7_fill_d0a16 w_J7_fill_d0a16 ({ frames := 0, cells := 0, slots := 0, locals := 0 }) (py_Pc E [.ref a, .long v] L f sz) (py_Qv E L f sz (fun L1 f1 => WF E G L1 f1 ∧ RP E G f f1 ∧ KP G [34] false f f1)) 0 0 (va_A (va_pl L f) sz) := by
  refine Met.ofW (cc := cJ7_fill_d0a16) (maxL := 5) (ret := none) (by decide) rfl ?_
  intro p e s m args below meth c s₁ B hml hv
  obtain ⟨rfl, rfl, hw⟩ := py_start hv
  have G0 : CallFix p m c cJ7_fill_d0a16 5 s _ w_J7_fill_d0a16 RJ7 := ⟨B.exec, B.bytes, hml, findClass_of_methodNamed B.named, atoms_spec (ws := w_J7_fill_d0a16) B.pre⟩
  have hr := B.returns
  have hlk := B.notSynchronized
  have kcm1 : (-1 : Int32).toInt = -1 := rfl
  have kc0 : (0 : Int32).toInt = 0 := rfl
  have kc1 : (1 : Int32).toInt = 1 := rfl
  have kc22 : (22 : Int32).toInt = 22 := rfl
  have hl := lv_entry ([.ref a, .long v]) (n := 5) (Nat.le_of_ble_eq_true rfl)
  rw [lg_entry_eq]
  generalize (lg_sl ([.ref a, .long v]) ++ List.replicate (5 - (lg_sl ([.ref a, .long v])).length) Slot.unset).toArray = ls at hl ⊢
  have hl : lv_has ls 5 [(0, .ref a), (1, .long v)] := hl
  have hRP : RP E G f f := RP.refl
  have hKP : KP G [34] false f f := KP.refl
  refine lv_iconst (v := 0) G0.1 G0.2.1 dJ7_fill_d0a16_0 (by decide) ?_
  refine lv_istore_n (lv' := [(3, .int 0), (0, .ref a), (1, .long v)]) G0.1 G0.2.1 dJ7_fill_d0a16_1 rfl hl (by decide) rfl (fun ls hl => ?_)
  refine lv_aload_n G0.1 G0.2.1 dJ7_fill_d0a16_2 rfl (lv_at hl 1 rfl) ?_
  obtain ⟨g_1, ha_2⟩ := wf_j34 hWF Ta
  refine py_jlen (v := 22) G0 hw ha_2 rfl dJ7_fill_d0a16_3 ?_
  refine lv_istore (lv' := [(4, .int 22), (3, .int 0), (0, .ref a), (1, .long v)]) G0.1 G0.2.1 dJ7_fill_d0a16_4 hl (by decide) rfl (fun ls hl => ?_)
  have lo_6 : ∀ n_6 : Nat, ∀ (v_3 : Int32) (L_j6 : List Nat) (f_j6 : py_F) (H_j6 : Heap) (locs : List Loc) (ls : Array Slot), (2147483647 - v_3.toInt).toNat = n_6 → (0 ≤ v_3.toInt ∧ v_3.toInt ≤ 2147483647) → WF E G L_j6 f_j6 → RP E G f f_j6 → KP G [34] false f f_j6 → py_W E (va_A (va_pl L f) s.heap.size) s L_j6 f_j6 H_j6 locs → lv_has ls 5 [(4, .int 22), (3, .int v_3), (0, .ref a), (1, .long v)] → W p l e (headSpec w_J7_fill_d0a16 ({ frames := 0, cells := 0, slots := 0, locals := 0 })).room s m ([.ref a, .long v] : List Value).toArray below meth c H_j6 locs 0 0 (MQ below (py_Qv E L f s.heap.size (fun L1 f1 => WF E G L1 f1 ∧ RP E G f f1 ∧ KP G [34] false f f1)) ([.ref a, .long v] : List Value).toArray s 0 0 (va_A (va_pl L f) s.heap.size)) (F0 m 6 ls []) := by
    intro n_6
    induction n_6 using Nat.strongRecOn with
    | _ n_6 ih_6 =>
      intro v_3 L_j6 f_j6 H_j6 locs ls hn_6 bv_3 hWF hRP hKP hw hl
      refine lv_iload_n G0.1 G0.2.1 dJ7_fill_d0a16_6 rfl (lv_at hl 1 rfl) ?_
      refine lv_iload G0.1 G0.2.1 dJ7_fill_d0a16_7 (lv_at hl 0 rfl) ?_
      refine lv_icmp_ge (tgt := 22) G0.1 G0.2.1 dJ7_fill_d0a16_9 (by decide) (fun c_4 => ?_) (fun c_4 => ?_)
      · skip
        have tc_4 := ti_le c_4
        exact py_vret G0 hr hlk hw ⟨hWF, hRP, hKP⟩ dJ7_fill_d0a16_22
      · skip
        have tc_4 := ti_nle c_4
        refine lv_aload_n G0.1 G0.2.1 dJ7_fill_d0a16_12 rfl (lv_at hl 2 rfl) ?_
        refine lv_iload_n G0.1 G0.2.1 dJ7_fill_d0a16_13 rfl (lv_at hl 1 rfl) ?_
        refine lv_lload_n G0.1 G0.2.1 dJ7_fill_d0a16_14 rfl (lv_at hl 3 rfl) ?_
        obtain ⟨g_5, ha_6⟩ := wf_j34 hWF Ta
        have rg_7 : vp_in v_3 22 := ti_in (by omega) (by omega)
        refine py_last G0 hw ha_6 rg_7 dJ7_fill_d0a16_15 (fun f_8 H_9 locs h_10 x_11 hw => ?_)
        have hKP := hKP.upd hWF x_11 Ta (Or.inl (by decide))
        have hRP := hRP.trans (rp_upd hG hWF x_11 ha_6.2 h_10.2 (rp_code hG Ta (by decide)) rfl)
        have hWF := wf_upd hWF h_10 x_11 (by rw [Ta]; exact ⟨_, rfl⟩)
        obtain ⟨x_12, ex_12⟩ : ∃ y : Int32, y = v_3 + 1 := ⟨_, rfl⟩
        first | have tx_12 := ti_add ex_12 (by omega) (by omega) | skip
        refine lv_iinc (v := x_12) (lv' := [(3, .int x_12), (4, .int 22), (0, .ref a), (1, .long v)]) G0.1 G0.2.1 dJ7_fill_d0a16_16 hl (k := 1) rfl (show _ + (1 : Int32) = _ from ex_12.symm) (by decide) rfl (fun ls hl => ?_)
        refine lv_goto (tgt := 6) G0.1 G0.2.1 dJ7_fill_d0a16_19 (by decide) ?_
        exact ih_6 ((2147483647 - x_12.toInt).toNat) (by omega) x_12 L_j6 f_8 _ _ ls rfl ⟨by omega, by omega⟩ hWF hRP hKP hw (lv_sub hl [1, 0, 2, 3] rfl)
  exact lo_6 _ 0 L f _ _ ls rfl ⟨by omega, by omega⟩ hWF hRP hKP hw (lv_sub hl [0, 1, 2, 3] rfl)

set_option maxHeartbeats 4000000 in
set_option maxRecDepth 100000 in
theorem c_J7_fill_d0a1635 (l : Launch) (E : py_E) (G : wf_G) (L : List Nat) (f : py_F) (sz : Nat) (a : Nat) (v : Int64) (hG : GT G) (hWF : WF E G L f) (Ta : G.1 a = 35) : Met l yJ7_fill_d0a16 w_J7_fill_d0a16 ({ frames := 0, cells := 0, slots := 0, locals := 0 }) (py_Pc E [.ref a, .long v] L f sz) (py_Qv E L f sz (fun L1 f1 => WF E G L1 f1 ∧ RP E G f f1 ∧ KP G [35] false f f1)) 0 0 (va_A (va_pl L f) sz) := by
  refine Met.ofW (cc := cJ7_fill_d0a16) (maxL := 5) (ret := none) (by decide) rfl ?_
  intro p e s m args below meth c s₁ B hml hv
  obtain ⟨rfl, rfl, hw⟩ := py_start hv
  have G0 : CallFix p m c cJ7_fill_d0a16 5 s _ w_J7_fill_d0a16 RJ7 := ⟨B.exec, B.bytes, hml, findClass_of_methodNamed B.named, atoms_spec (ws := w_J7_fill_d0a16) B.pre⟩
  have hr := B.returns
  have hlk := B.notSynchronized
  have kcm1 : (-1 : Int32).toInt = -1 := rfl
  have kc0 : (0 : Int32).toInt = 0 := rfl
  have kc1 : (1 : Int32).toInt = 1 := rfl
  have kc168 : (168 : Int32).toInt = 168 := rfl
  have hl := lv_entry ([.ref a, .long v]) (n := 5) (Nat.le_of_ble_eq_true rfl)
  rw [lg_entry_eq]
  generalize (lg_sl ([.ref a, .long v]) ++ List.replicate (5 - (lg_sl ([.ref a, .long v])).length) Slot.unset).toArray = ls at hl ⊢
  have hl : lv_has ls 5 [(0, .ref a), (1, .long v)] := hl
  have hRP : RP E G f f := RP.refl
  have hKP : KP G [35] false f f := KP.refl
  refine lv_iconst (v := 0) G0.1 G0.2.1 dJ7_fill_d0a16_0 (by decide) ?_
  refine lv_istore_n (lv' := [(3, .int 0), (0, .ref a), (1, .long v)]) G0.1 G0.2.1 dJ7_fill_d0a16_1 rfl hl (by decide) rfl (fun ls hl => ?_)
  refine lv_aload_n G0.1 G0.2.1 dJ7_fill_d0a16_2 rfl (lv_at hl 1 rfl) ?_
  obtain ⟨g_1, ha_2⟩ := wf_j35 hWF Ta
  refine py_jlen (v := 168) G0 hw ha_2 rfl dJ7_fill_d0a16_3 ?_
  refine lv_istore (lv' := [(4, .int 168), (3, .int 0), (0, .ref a), (1, .long v)]) G0.1 G0.2.1 dJ7_fill_d0a16_4 hl (by decide) rfl (fun ls hl => ?_)
  have lo_6 : ∀ n_6 : Nat, ∀ (v_3 : Int32) (L_j6 : List Nat) (f_j6 : py_F) (H_j6 : Heap) (locs : List Loc) (ls : Array Slot), (2147483647 - v_3.toInt).toNat = n_6 → (0 ≤ v_3.toInt ∧ v_3.toInt ≤ 2147483647) → WF E G L_j6 f_j6 → RP E G f f_j6 → KP G [35] false f f_j6 → py_W E (va_A (va_pl L f) s.heap.size) s L_j6 f_j6 H_j6 locs → lv_has ls 5 [(4, .int 168), (3, .int v_3), (0, .ref a), (1, .long v)] → W p l e (headSpec w_J7_fill_d0a16 ({ frames := 0, cells := 0, slots := 0, locals := 0 })).room s m ([.ref a, .long v] : List Value).toArray below meth c H_j6 locs 0 0 (MQ below (py_Qv E L f s.heap.size (fun L1 f1 => WF E G L1 f1 ∧ RP E G f f1 ∧ KP G [35] false f f1)) ([.ref a, .long v] : List Value).toArray s 0 0 (va_A (va_pl L f) s.heap.size)) (F0 m 6 ls []) := by
    intro n_6
    induction n_6 using Nat.strongRecOn with
    | _ n_6 ih_6 =>
      intro v_3 L_j6 f_j6 H_j6 locs ls hn_6 bv_3 hWF hRP hKP hw hl
      refine lv_iload_n G0.1 G0.2.1 dJ7_fill_d0a16_6 rfl (lv_at hl 1 rfl) ?_
      refine lv_iload G0.1 G0.2.1 dJ7_fill_d0a16_7 (lv_at hl 0 rfl) ?_
      refine lv_icmp_ge (tgt := 22) G0.1 G0.2.1 dJ7_fill_d0a16_9 (by decide) (fun c_4 => ?_) (fun c_4 => ?_)
      · skip
        have tc_4 := ti_le c_4
        exact py_vret G0 hr hlk hw ⟨hWF, hRP, hKP⟩ dJ7_fill_d0a16_22
      · skip
        have tc_4 := ti_nle c_4
        refine lv_aload_n G0.1 G0.2.1 dJ7_fill_d0a16_12 rfl (lv_at hl 2 rfl) ?_
        refine lv_iload_n G0.1 G0.2.1 dJ7_fill_d0a16_13 rfl (lv_at hl 1 rfl) ?_
        refine lv_lload_n G0.1 G0.2.1 dJ7_fill_d0a16_14 rfl (lv_at hl 3 rfl) ?_
        obtain ⟨g_5, ha_6⟩ := wf_j35 hWF Ta
        have rg_7 : vp_in v_3 168 := ti_in (by omega) (by omega)
        refine py_last G0 hw ha_6 rg_7 dJ7_fill_d0a16_15 (fun f_8 H_9 locs h_10 x_11 hw => ?_)
        have hKP := hKP.upd hWF x_11 Ta (Or.inl (by decide))
        have hRP := hRP.trans (rp_upd hG hWF x_11 ha_6.2 h_10.2 (rp_code hG Ta (by decide)) rfl)
        have hWF := wf_upd hWF h_10 x_11 (by rw [Ta]; exact ⟨_, rfl⟩)
        obtain ⟨x_12, ex_12⟩ : ∃ y : Int32, y = v_3 + 1 := ⟨_, rfl⟩
        first | have tx_12 := ti_add ex_12 (by omega) (by omega) | skip
        refine lv_iinc (v := x_12) (lv' := [(3, .int x_12), (4, .int 168), (0, .ref a), (1, .long v)]) G0.1 G0.2.1 dJ7_fill_d0a16_16 hl (k := 1) rfl (show _ + (1 : Int32) = _ from ex_12.symm) (by decide) rfl (fun ls hl => ?_)
        refine lv_goto (tgt := 6) G0.1 G0.2.1 dJ7_fill_d0a16_19 (by decide) ?_
        exact ih_6 ((2147483647 - x_12.toInt).toNat) (by omega) x_12 L_j6 f_8 _ _ ls rfl ⟨by omega, by omega⟩ hWF hRP hKP hw (lv_sub hl [1, 0, 2, 3] rfl)
  exact lo_6 _ 0 L f _ _ ls rfl ⟨by omega, by omega⟩ hWF hRP hKP hw (lv_sub hl [0, 1, 2, 3] rfl)
