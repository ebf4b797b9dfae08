theorem dX3_add_0 : decode cX3_add 0 = .ok (.aload_n 0, 1) := by decide +kernel
theorem dX3_add_1 : decode cX3_add 1 = .ok (.getfield 18, 3) := by decide +kernel
theorem dX3_add_4 : decode cX3_add 4 = .ok (.aload_n 0, 1) := by decide +kernel
theorem dX3_add_5 : decode cX3_add 5 = .ok (.getfield 9, 3) := by decide +kernel
theorem dX3_add_8 : decode cX3_add 8 = .ok (.arraylength, 1) := by decide +kernel
theorem dX3_add_9 : decode cX3_add 9 = .ok (.if_icmp .ge 28, 3) := by decide +kernel
theorem dX3_add_12 : decode cX3_add 12 = .ok (.aload_n 0, 1) := by decide +kernel
theorem dX3_add_13 : decode cX3_add 13 = .ok (.getfield 9, 3) := by decide +kernel
theorem dX3_add_16 : decode cX3_add 16 = .ok (.aload_n 0, 1) := by decide +kernel
theorem dX3_add_17 : decode cX3_add 17 = .ok (.getfield 18, 3) := by decide +kernel
theorem dX3_add_20 : decode cX3_add 20 = .ok (.iload_n 1, 1) := by decide +kernel
theorem dX3_add_21 : decode cX3_add 21 = .ok (.bipush 16, 2) := by decide +kernel
theorem dX3_add_23 : decode cX3_add 23 = .ok (.ishl, 1) := by decide +kernel
theorem dX3_add_24 : decode cX3_add 24 = .ok (.iload_n 2, 1) := by decide +kernel
theorem dX3_add_25 : decode cX3_add 25 = .ok (.ior, 1) := by decide +kernel
theorem dX3_add_26 : decode cX3_add 26 = .ok (.iastore, 1) := by decide +kernel
theorem dX3_add_27 : decode cX3_add 27 = .ok (.aload_n 0, 1) := by decide +kernel
theorem dX3_add_28 : decode cX3_add 28 = .ok (.dup, 1) := by decide +kernel
theorem dX3_add_29 : decode cX3_add 29 = .ok (.getfield 18, 3) := by decide +kernel
theorem dX3_add_32 : decode cX3_add 32 = .ok (.iconst 1, 1) := by decide +kernel
theorem dX3_add_33 : decode cX3_add 33 = .ok (.iadd, 1) := by decide +kernel
theorem dX3_add_34 : decode cX3_add 34 = .ok (.putfield 18, 3) := by decide +kernel
theorem dX3_add_37 : decode cX3_add 37 = .ok (.return_, 1) := by decide +kernel
theorem dX3_aimHere_0 : decode cX3_aimHere 0 = .ok (.iload_n 1, 1) := by decide +kernel
theorem dX3_aimHere_1 : decode cX3_aimHere 1 = .ok (.ifCond .lt 24, 3) := by decide +kernel
theorem dX3_aimHere_4 : decode cX3_aimHere 4 = .ok (.iload_n 1, 1) := by decide +kernel
theorem dX3_aimHere_5 : decode cX3_aimHere 5 = .ok (.aload_n 0, 1) := by decide +kernel
theorem dX3_aimHere_6 : decode cX3_aimHere 6 = .ok (.getfield 18, 3) := by decide +kernel
theorem dX3_aimHere_9 : decode cX3_aimHere 9 = .ok (.if_icmp .ge 16, 3) := by decide +kernel
theorem dX3_aimHere_12 : decode cX3_aimHere 12 = .ok (.aload_n 0, 1) := by decide +kernel
theorem dX3_aimHere_13 : decode cX3_aimHere 13 = .ok (.getfield 9, 3) := by decide +kernel
theorem dX3_aimHere_16 : decode cX3_aimHere 16 = .ok (.iload_n 1, 1) := by decide +kernel
theorem dX3_aimHere_17 : decode cX3_aimHere 17 = .ok (.ldc 27, 2) := by decide +kernel
theorem dX3_aimHere_19 : decode cX3_aimHere 19 = .ok (.aload_n 0, 1) := by decide +kernel
theorem dX3_aimHere_20 : decode cX3_aimHere 20 = .ok (.getfield 18, 3) := by decide +kernel
theorem dX3_aimHere_23 : decode cX3_aimHere 23 = .ok (.ior, 1) := by decide +kernel
theorem dX3_aimHere_24 : decode cX3_aimHere 24 = .ok (.iastore, 1) := by decide +kernel
theorem dX3_aimHere_25 : decode cX3_aimHere 25 = .ok (.return_, 1) := by decide +kernel
theorem dX4_chainOf_0 : decode cX4_chainOf 0 = .ok (.iload_n 0, 1) := by decide +kernel
theorem dX4_chainOf_1 : decode cX4_chainOf 1 = .ok (.lookupswitch 67 #[(38, 61), (42, 65), (43, 63), (45, 63), (47, 65), (124, 59)], 59) := by decide +kernel
theorem dX4_chainOf_60 : decode cX4_chainOf 60 = .ok (.iconst 0, 1) := by decide +kernel
theorem dX4_chainOf_61 : decode cX4_chainOf 61 = .ok (.ireturn, 1) := by decide +kernel
theorem dX4_chainOf_62 : decode cX4_chainOf 62 = .ok (.iconst 1, 1) := by decide +kernel
theorem dX4_chainOf_63 : decode cX4_chainOf 63 = .ok (.ireturn, 1) := by decide +kernel
theorem dX4_chainOf_64 : decode cX4_chainOf 64 = .ok (.iconst 2, 1) := by decide +kernel
theorem dX4_chainOf_65 : decode cX4_chainOf 65 = .ok (.ireturn, 1) := by decide +kernel
theorem dX4_chainOf_66 : decode cX4_chainOf 66 = .ok (.iconst 3, 1) := by decide +kernel
theorem dX4_chainOf_67 : decode cX4_chainOf 67 = .ok (.ireturn, 1) := by decide +kernel
theorem dX4_chainOf_68 : decode cX4_chainOf 68 = .ok (.iconst (-1), 1) := by decide +kernel
theorem dX4_chainOf_69 : decode cX4_chainOf 69 = .ok (.ireturn, 1) := by decide +kernel
theorem dX4_isComparison_0 : decode cX4_isComparison 0 = .ok (.iload_n 0, 1) := by decide +kernel
theorem dX4_isComparison_1 : decode cX4_isComparison 1 = .ok (.bipush 61, 2) := by decide +kernel
theorem dX4_isComparison_3 : decode cX4_isComparison 3 = .ok (.if_icmp .eq 15, 3) := by decide +kernel
theorem dX4_isComparison_6 : decode cX4_isComparison 6 = .ok (.iload_n 0, 1) := by decide +kernel
theorem dX4_isComparison_7 : decode cX4_isComparison 7 = .ok (.bipush 60, 2) := by decide +kernel
theorem dX4_isComparison_9 : decode cX4_isComparison 9 = .ok (.if_icmp .eq 9, 3) := by decide +kernel
theorem dX4_isComparison_12 : decode cX4_isComparison 12 = .ok (.iload_n 0, 1) := by decide +kernel
theorem dX4_isComparison_13 : decode cX4_isComparison 13 = .ok (.bipush 62, 2) := by decide +kernel
theorem dX4_isComparison_15 : decode cX4_isComparison 15 = .ok (.if_icmp .ne 7, 3) := by decide +kernel
theorem dX4_isComparison_18 : decode cX4_isComparison 18 = .ok (.iconst 1, 1) := by decide +kernel
theorem dX4_isComparison_19 : decode cX4_isComparison 19 = .ok (.goto 4, 3) := by decide +kernel
theorem dX4_isComparison_22 : decode cX4_isComparison 22 = .ok (.iconst 0, 1) := by decide +kernel
theorem dX4_isComparison_23 : decode cX4_isComparison 23 = .ok (.ireturn, 1) := by decide +kernel
def w_X3_add : List Cond := .code yX3_add cX3_add 3 none :: ([Cond.fieldLink RX3 18 "HeadYear$Law" "length" "I", Cond.fieldLink RX3 9 "HeadYear$Law" "code" "[I"] ++ (u_ws RX3 TX3 3 ++ ([])))
theorem in_X3_add_X3 : ∀ w ∈ u_ws RX3 TX3 3, w ∈ w_X3_add := fun _ h => List.mem_cons_of_mem _ (List.mem_append_right _ (List.mem_append_left _ h))
set_option maxHeartbeats 4000000 in
set_option maxRecDepth 100000 in
theorem c_X3_add (l : Launch) (E : py_E) (G : wf_G) (L : List Nat) (f : py_F) (sz : Nat) (h : Nat) (a : Int32) (b : Int32) (hG : GT G) (hWF : WF E G L f) (Th : G.1 h = 4) : Met l yX3_add w_X3_add ({ frames := 0, cells := 0, slots := 0, locals := 0 }) (py_Pc E [.ref h, .int a, .int b] L f sz) (py_Qv E L f sz (fun L1 f1 => WF E G L1 f1 ∧ RP E G f f1 ∧ KP G [4, 20] false f f1)) 0 0 (va_A (va_pl L f) sz) := by
  refine Met.ofW (cc := cX3_add) (maxL := 3) (ret := none) (by decide) rfl ?_
  intro p e s m args below meth c s₁ B hml hv
  obtain ⟨rfl, rfl, hw⟩ := py_start hv
  have G0 : CallFix p m c cX3_add 3 s _ w_X3_add RX3 := ⟨B.exec, B.bytes, hml, findClass_of_methodNamed B.named, atoms_spec (ws := w_X3_add) B.pre⟩
  have hr := B.returns
  have hlk := B.notSynchronized
  have kcm1 : (-1 : Int32).toInt = -1 := rfl
  have kc0 : (0 : Int32).toInt = 0 := rfl
  have kc1 : (1 : Int32).toInt = 1 := rfl
  have kc16 : (16 : Int32).toInt = 16 := rfl
  have kc160 : (160 : Int32).toInt = 160 := rfl
  have hl := lv_entry ([.ref h, .int a, .int b]) (n := 3) (Nat.le_of_ble_eq_true rfl)
  rw [lg_entry_eq]
  generalize (lg_sl ([.ref h, .int a, .int b]) ++ List.replicate (3 - (lg_sl ([.ref h, .int a, .int b])).length) Slot.unset).toArray = ls at hl ⊢
  have hl : lv_has ls 3 [(0, .ref h), (1, .int a), (2, .int b)] := hl
  have hRP : RP E G f f := RP.refl
  have hKP : KP G [4, 20] false f f := KP.refl
  refine lv_aload_n G0.1 G0.2.1 dX3_add_0 rfl (lv_at hl 0 rfl) ?_
  obtain ⟨t_1, t_2⟩ := wt_3 hG Th
  obtain ⟨v_3, hr_5, b_4⟩ := wg_3 hWF Th
  refine py_get (C := RX3) (T := TX3) (N := 3) (k := 2) (v := .int v_3) G0 hw in_X3_add_X3 rfl hr_5 (by decide) (by decide +kernel) rfl dX3_add_1 ?_
  refine lv_aload_n G0.1 G0.2.1 dX3_add_4 rfl (lv_at hl 0 rfl) ?_
  refine py_get (C := RX3) (T := TX3) (N := 3) (k := 0) (v := .ref (G.2 h 0)) G0 hw in_X3_add_X3 rfl hr_5 (by decide) (by decide +kernel) rfl dX3_add_5 ?_
  obtain ⟨g_6, ha_7, hi_8⟩ := wf_arr (n := 160) (lo := (-2147483648)) (hi := 2147483647) hWF t_1 (by decide) (fun _ => rfl)
  refine py_alen (v := 160) G0 hw ha_7 rfl dX3_add_8 ?_
  refine lv_icmp_ge (tgt := 37) G0.1 G0.2.1 dX3_add_9 (by decide) (fun c_9 => ?_) (fun c_9 => ?_)
  · skip
    have tc_9 := ti_le c_9
    exact py_vret G0 hr hlk hw ⟨hWF, hRP, hKP⟩ dX3_add_37
  · skip
    have tc_9 := ti_nle c_9
    refine lv_aload_n G0.1 G0.2.1 dX3_add_12 rfl (lv_at hl 0 rfl) ?_
    refine py_get (C := RX3) (T := TX3) (N := 3) (k := 0) (v := .ref (G.2 h 0)) G0 hw in_X3_add_X3 rfl hr_5 (by decide) (by decide +kernel) rfl dX3_add_13 ?_
    refine lv_aload_n G0.1 G0.2.1 dX3_add_16 rfl (lv_at hl 0 rfl) ?_
    refine py_get (C := RX3) (T := TX3) (N := 3) (k := 2) (v := .int v_3) G0 hw in_X3_add_X3 rfl hr_5 (by decide) (by decide +kernel) rfl dX3_add_17 ?_
    refine lv_iload_n G0.1 G0.2.1 dX3_add_20 rfl (lv_at hl 1 rfl) ?_
    refine lv_bipush (v := 16) G0.1 G0.2.1 dX3_add_21 (by decide) ?_
    refine lv_ishl G0.1 G0.2.1 dX3_add_23 ?_
    refine lv_topi (fun x_10 ex_10 => ?_)
    refine lv_iload_n G0.1 G0.2.1 dX3_add_24 rfl (lv_at hl 2 rfl) ?_
    refine lv_ior G0.1 G0.2.1 dX3_add_25 ?_
    refine lv_topi (fun x_11 ex_11 => ?_)
    first | have bx_11 := ti_or ex_11 ⟨by omega, by omega⟩ ⟨by omega, by omega⟩ | skip
    have rg_12 : vp_in v_3 160 := ti_in (by omega) (by omega)
    refine py_iast G0 hw ha_7 rg_12 dX3_add_26 (fun f_13 H_14 locs h_15 x_16 hw => ?_)
    have hKP := hKP.upd hWF x_16 t_1 (Or.inl (by decide))
    have hRP := hRP.trans (rp_upd hG hWF x_16 ha_7.2 h_15.2 (rp_code hG t_1 (by decide)) rfl)
    have hi_17 := wf_inu (k := (v_3 : Int32).toNatClampNeg) (x := x_11) hi_8 (wf_free x_11).1 (wf_free x_11).2
    have hWF := wf_upd hWF h_15 x_16 (by rw [t_1]; exact ⟨_, rfl, hi_17⟩)
    have hr_5 := hr_5.ext x_16 (py_ne_arr hr_5 ha_7)
    refine lv_aload_n G0.1 G0.2.1 dX3_add_27 rfl (lv_at hl 0 rfl) ?_
    refine lv_dup G0.1 G0.2.1 dX3_add_28 rfl ?_
    refine py_get (C := RX3) (T := TX3) (N := 3) (k := 2) (v := .int v_3) G0 hw in_X3_add_X3 rfl hr_5 (by decide) (by decide +kernel) rfl dX3_add_29 ?_
    refine lv_iconst (v := 1) G0.1 G0.2.1 dX3_add_32 (by decide) ?_
    refine lv_iadd G0.1 G0.2.1 dX3_add_33 ?_
    refine lv_topi (fun x_18 ex_18 => ?_)
    first | have tx_18 := ti_add ex_18 (by omega) (by omega) | skip
    refine py_put (C := RX3) (T := TX3) (N := 3) (k := 2) (v := .int x_18) (fs' := [.ref (G.2 h 0), .ref (G.2 h 1), .int x_18]) (ty0 := tyX3) G0 hw tyX3_ok nmX3 in_X3_add_X3 rfl hr_5 (by decide) (by decide +kernel) rfl rfl rfl rfl (Nat.le_of_ble_eq_true rfl) rfl dX3_add_34 (fun f_19 H_20 locs h_21 x_22 hw => ?_)
    have hKP := hKP.upd hWF x_22 Th (Or.inl (by decide))
    have hRP := hRP.trans (rp_upd hG hWF x_22 hr_5.2 h_21.2 (rp_code hG Th (by decide)) rfl)
    have hWF := wf_upd hWF h_21 x_22 (by rw [Th]; exact ⟨x_18, rfl, ⟨by omega, by omega⟩⟩)
    have h_15 := h_15.ext x_22 (Ne.symm (py_ne_arr hr_5 h_15))
    exact py_vret G0 hr hlk hw ⟨hWF, hRP, hKP⟩ dX3_add_37

def w_X3_aimHere : List Cond := .code yX3_aimHere cX3_aimHere 2 none :: ([Cond.fieldLink RX3 18 "HeadYear$Law" "length" "I", Cond.fieldLink RX3 9 "HeadYear$Law" "code" "[I", Cond.constant RX3 27 (4128768)] ++ (u_ws RX3 TX3 3 ++ ([])))
theorem in_X3_aimHere_X3 : ∀ w ∈ u_ws RX3 TX3 3, w ∈ w_X3_aimHere := fun _ h => List.mem_cons_of_mem _ (List.mem_append_right _ (List.mem_append_left _ h))
set_option maxHeartbeats 4000000 in
set_option maxRecDepth 100000 in
theorem c_X3_aimHere (l : Launch) (E : py_E) (G : wf_G) (L : List Nat) (f : py_F) (sz : Nat) (h : Nat) (a : Int32) (hG : GT G) (hWF : WF E G L f) (Th : G.1 h = 4) : Met l yX3_aimHere w_X3_aimHere ({ frames := 0, cells := 0, slots := 0, locals := 0 }) (py_Pc E [.ref h, .int a] L f sz) (py_Qv E L f sz (fun L1 f1 => WF E G L1 f1 ∧ RP E G f f1 ∧ KP G [20] false f f1)) 0 0 (va_A (va_pl L f) sz) := by
  refine Met.ofW (cc := cX3_aimHere) (maxL := 2) (ret := none) (by decide) rfl ?_
  intro p e s m args below meth c s₁ B hml hv
  obtain ⟨rfl, rfl, hw⟩ := py_start hv
  have G0 : CallFix p m c cX3_aimHere 2 s _ w_X3_aimHere RX3 := ⟨B.exec, B.bytes, hml, findClass_of_methodNamed B.named, atoms_spec (ws := w_X3_aimHere) B.pre⟩
  have hr := B.returns
  have hlk := B.notSynchronized
  have kcm1 : (-1 : Int32).toInt = -1 := rfl
  have kc0 : (0 : Int32).toInt = 0 := rfl
  have kc1 : (1 : Int32).toInt = 1 := rfl
  have kc4128768 : (4128768 : Int32).toInt = 4128768 := rfl
  have hl := lv_entry ([.ref h, .int a]) (n := 2) (Nat.le_of_ble_eq_true rfl)
  rw [lg_entry_eq]
  generalize (lg_sl ([.ref h, .int a]) ++ List.replicate (2 - (lg_sl ([.ref h, .int a])).length) Slot.unset).toArray = ls at hl ⊢
  have hl : lv_has ls 2 [(0, .ref h), (1, .int a)] := hl
  have hRP : RP E G f f := RP.refl
  have hKP : KP G [20] false f f := KP.refl
  refine lv_iload_n G0.1 G0.2.1 dX3_aimHere_0 rfl (lv_at hl 1 rfl) ?_
  have jn_25 : ∀ (L_j25 : List Nat) (f_j25 : py_F) (H_j25 : Heap) (locs : List Loc) (ls : Array Slot), WF E G L_j25 f_j25 → RP E G f f_j25 → KP G [20] false f f_j25 → py_W E (va_A (va_pl L f) s.heap.size) s L_j25 f_j25 H_j25 locs → lv_has ls 2 [(0, .ref h), (1, .int a)] → W p l e (headSpec w_X3_aimHere ({ frames := 0, cells := 0, slots := 0, locals := 0 })).room s m ([.ref h, .int a] : List Value).toArray below meth c H_j25 locs 0 0 (MQ below (py_Qv E L f s.heap.size (fun L1 f1 => WF E G L1 f1 ∧ RP E G f f1 ∧ KP G [20] false f f1)) ([.ref h, .int a] : List Value).toArray s 0 0 (va_A (va_pl L f) s.heap.size)) (F0 m 25 ls []) := by
    intro L_j25 f_j25 H_j25 locs ls hWF hRP hKP hw hl
    exact py_vret G0 hr hlk hw ⟨hWF, hRP, hKP⟩ dX3_aimHere_25
  refine lv_if_lt (tgt := 25) G0.1 G0.2.1 dX3_aimHere_1 (by decide) (fun c_1 => ?_) (fun c_1 => ?_)
  · skip
    have tc_1 := ti_lt c_1
    exact jn_25 L f _ _ ls hWF hRP hKP hw (lv_sub hl [0, 1] rfl)
  · skip
    have tc_1 := ti_nlt c_1
    refine lv_iload_n G0.1 G0.2.1 dX3_aimHere_4 rfl (lv_at hl 1 rfl) ?_
    refine lv_aload_n G0.1 G0.2.1 dX3_aimHere_5 rfl (lv_at hl 0 rfl) ?_
    obtain ⟨t_2, t_3⟩ := wt_3 hG Th
    obtain ⟨v_4, hr_6, b_5⟩ := wg_3 hWF Th
    refine py_get (C := RX3) (T := TX3) (N := 3) (k := 2) (v := .int v_4) G0 hw in_X3_aimHere_X3 rfl hr_6 (by decide) (by decide +kernel) rfl dX3_aimHere_6 ?_
    refine lv_icmp_ge (tgt := 25) G0.1 G0.2.1 dX3_aimHere_9 (by decide) (fun c_7 => ?_) (fun c_7 => ?_)
    · skip
      have tc_7 := ti_le c_7
      exact jn_25 L f _ _ ls hWF hRP hKP hw (lv_sub hl [0, 1] rfl)
    · skip
      have tc_7 := ti_nle c_7
      refine lv_aload_n G0.1 G0.2.1 dX3_aimHere_12 rfl (lv_at hl 0 rfl) ?_
      refine py_get (C := RX3) (T := TX3) (N := 3) (k := 0) (v := .ref (G.2 h 0)) G0 hw in_X3_aimHere_X3 rfl hr_6 (by decide) (by decide +kernel) rfl dX3_aimHere_13 ?_
      refine lv_iload_n G0.1 G0.2.1 dX3_aimHere_16 rfl (lv_at hl 1 rfl) ?_
      refine lv_ldc (v := 4128768) G0.1 G0.2.1 G0.2.2.2.1 (G0.2.2.2.2 (Cond.constant RX3 27 (4128768)) (by decide +kernel)) dX3_aimHere_17 ?_
      refine lv_aload_n G0.1 G0.2.1 dX3_aimHere_19 rfl (lv_at hl 0 rfl) ?_
      refine py_get (C := RX3) (T := TX3) (N := 3) (k := 2) (v := .int v_4) G0 hw in_X3_aimHere_X3 rfl hr_6 (by decide) (by decide +kernel) rfl dX3_aimHere_20 ?_
      refine lv_ior G0.1 G0.2.1 dX3_aimHere_23 ?_
      refine lv_topi (fun x_8 ex_8 => ?_)
      first | have bx_8 := ti_or ex_8 ⟨by omega, by omega⟩ ⟨by omega, by omega⟩ | skip
      obtain ⟨g_9, ha_10, hi_11⟩ := wf_arr (n := 160) (lo := (-2147483648)) (hi := 2147483647) hWF t_2 (by decide) (fun _ => rfl)
      have rg_12 : vp_in a 160 := ti_in (by omega) (by omega)
      refine py_iast G0 hw ha_10 rg_12 dX3_aimHere_24 (fun f_13 H_14 locs h_15 x_16 hw => ?_)
      have hKP := hKP.upd hWF x_16 t_2 (Or.inl (by decide))
      have hRP := hRP.trans (rp_upd hG hWF x_16 ha_10.2 h_15.2 (rp_code hG t_2 (by decide)) rfl)
      have hi_17 := wf_inu (k := (a : Int32).toNatClampNeg) (x := x_8) hi_11 (wf_free x_8).1 (wf_free x_8).2
      have hWF := wf_upd hWF h_15 x_16 (by rw [t_2]; exact ⟨_, rfl, hi_17⟩)
      have hr_6 := hr_6.ext x_16 (py_ne_arr hr_6 ha_10)
      exact jn_25 L f_13 _ _ ls hWF hRP hKP hw (lv_sub hl [0, 1] rfl)

def w_X4_chainOf : List Cond := .code yX4_chainOf cX4_chainOf 1 (some .int) :: ([] ++ ([]))
theorem sw_X4_chainOf_1 (x : Int32) : x = 38 ∨ x = 42 ∨ x = 43 ∨ x = 45 ∨ x = 47 ∨ x = 124 ∨ (¬ x = 38 ∧ ¬ x = 42 ∧ ¬ x = 43 ∧ ¬ x = 45 ∧ ¬ x = 47 ∧ ¬ x = 124) := by
  by_cases h0 : x = 38
  · exact Or.inl h0
  by_cases h1 : x = 42
  · exact Or.inr (Or.inl h1)
  by_cases h2 : x = 43
  · exact Or.inr (Or.inr (Or.inl h2))
  by_cases h3 : x = 45
  · exact Or.inr (Or.inr (Or.inr (Or.inl h3)))
  by_cases h4 : x = 47
  · exact Or.inr (Or.inr (Or.inr (Or.inr (Or.inl h4))))
  by_cases h5 : x = 124
  · exact Or.inr (Or.inr (Or.inr (Or.inr (Or.inr (Or.inl h5)))))
  have t0 := ti_ne h0
  have k0 : (38 : Int32).toInt = 38 := rfl
  have t1 := ti_ne h1
  have k1 : (42 : Int32).toInt = 42 := rfl
  have t2 := ti_ne h2
  have k2 : (43 : Int32).toInt = 43 := rfl
  have t3 := ti_ne h3
  have k3 : (45 : Int32).toInt = 45 := rfl
  have t4 := ti_ne h4
  have k4 : (47 : Int32).toInt = 47 := rfl
  have t5 := ti_ne h5
  have k5 : (124 : Int32).toInt = 124 := rfl
  exact Or.inr (Or.inr (Or.inr (Or.inr (Or.inr (Or.inr (⟨h0, h1, h2, h3, h4, h5⟩))))))
set_option maxHeartbeats 4000000 in
set_option maxRecDepth 100000 in
theorem c_X4_chainOf (l : Launch) (E : py_E) (G : wf_G) (L : List Nat) (f : py_F) (sz : Nat) (a : Int32) (ca : Int) (hG : GT G) (hWF : WF E G L f) (hp0 : a.toInt = ca) : Met l yX4_chainOf w_X4_chainOf ({ frames := 0, cells := 0, slots := 0, locals := 0 }) (py_Pc E [.int a] L f sz) (py_Qi E L f sz (fun r L1 f1 => ((-1) ≤ r.toInt ∧ r.toInt ≤ 3) ∧ (r.toInt ≠ -1 → a.toInt ≠ 0) ∧ ((rs_co ca = 4 ∧ r.toInt = -1) ∨ (rs_co ca ≠ 4 ∧ r.toInt = rs_co ca)) ∧ L = L1 ∧ f = f1)) 0 0 (va_A (va_pl L f) sz) := by
  refine Met.ofW (cc := cX4_chainOf) (maxL := 1) (ret := (some .int)) (by decide) rfl ?_
  intro p e s m args below meth c s₁ B hml hv
  obtain ⟨rfl, rfl, hw⟩ := py_start hv
  have G0 : CallFix p m c cX4_chainOf 1 s _ w_X4_chainOf RX4 := ⟨B.exec, B.bytes, hml, findClass_of_methodNamed B.named, atoms_spec (ws := w_X4_chainOf) B.pre⟩
  have hr := B.returns
  have hlk := B.notSynchronized
  have kcm1 : (-1 : Int32).toInt = -1 := rfl
  have kc0 : (0 : Int32).toInt = 0 := rfl
  have kc1 : (1 : Int32).toInt = 1 := rfl
  have kc2 : (2 : Int32).toInt = 2 := rfl
  have kc3 : (3 : Int32).toInt = 3 := rfl
  have kc38 : (38 : Int32).toInt = 38 := rfl
  have kc42 : (42 : Int32).toInt = 42 := rfl
  have kc43 : (43 : Int32).toInt = 43 := rfl
  have kc45 : (45 : Int32).toInt = 45 := rfl
  have kc47 : (47 : Int32).toInt = 47 := rfl
  have kc124 : (124 : Int32).toInt = 124 := rfl
  have hl := lv_entry ([.int a]) (n := 1) (Nat.le_of_ble_eq_true rfl)
  rw [lg_entry_eq]
  generalize (lg_sl ([.int a]) ++ List.replicate (1 - (lg_sl ([.int a])).length) Slot.unset).toArray = ls at hl ⊢
  have hl : lv_has ls 1 [(0, .int a)] := hl
  have hRP : RP E G f f := RP.refl
  refine lv_iload_n G0.1 G0.2.1 dX4_chainOf_0 rfl (lv_at hl 0 rfl) ?_
  rcases sw_X4_chainOf_1 a with e_sw | e_sw | e_sw | e_sw | e_sw | e_sw | e_sw
  · skip
    have te := ti_eq e_sw
    refine lv_lookup (off := 61) (tgt := 62) G0.1 G0.2.1 dX4_chainOf_1 (by decide) (by rw [e_sw]; decide) (by decide) ?_
    refine lv_iconst (v := 1) G0.1 G0.2.1 dX4_chainOf_62 (by decide) ?_
    exact py_iret G0 hr rfl hlk hw ⟨⟨by omega, by omega⟩, (by first | omega | (intro q; omega)), (by have hz := rs_co_eq ca; omega), rfl, rfl⟩ dX4_chainOf_63
  · skip
    have te := ti_eq e_sw
    refine lv_lookup (off := 65) (tgt := 66) G0.1 G0.2.1 dX4_chainOf_1 (by decide) (by rw [e_sw]; decide) (by decide) ?_
    refine lv_iconst (v := 3) G0.1 G0.2.1 dX4_chainOf_66 (by decide) ?_
    exact py_iret G0 hr rfl hlk hw ⟨⟨by omega, by omega⟩, (by first | omega | (intro q; omega)), (by have hz := rs_co_eq ca; omega), rfl, rfl⟩ dX4_chainOf_67
  · skip
    have te := ti_eq e_sw
    refine lv_lookup (off := 63) (tgt := 64) G0.1 G0.2.1 dX4_chainOf_1 (by decide) (by rw [e_sw]; decide) (by decide) ?_
    refine lv_iconst (v := 2) G0.1 G0.2.1 dX4_chainOf_64 (by decide) ?_
    exact py_iret G0 hr rfl hlk hw ⟨⟨by omega, by omega⟩, (by first | omega | (intro q; omega)), (by have hz := rs_co_eq ca; omega), rfl, rfl⟩ dX4_chainOf_65
  · skip
    have te := ti_eq e_sw
    refine lv_lookup (off := 63) (tgt := 64) G0.1 G0.2.1 dX4_chainOf_1 (by decide) (by rw [e_sw]; decide) (by decide) ?_
    refine lv_iconst (v := 2) G0.1 G0.2.1 dX4_chainOf_64 (by decide) ?_
    exact py_iret G0 hr rfl hlk hw ⟨⟨by omega, by omega⟩, (by first | omega | (intro q; omega)), (by have hz := rs_co_eq ca; omega), rfl, rfl⟩ dX4_chainOf_65
  · skip
    have te := ti_eq e_sw
    refine lv_lookup (off := 65) (tgt := 66) G0.1 G0.2.1 dX4_chainOf_1 (by decide) (by rw [e_sw]; decide) (by decide) ?_
    refine lv_iconst (v := 3) G0.1 G0.2.1 dX4_chainOf_66 (by decide) ?_
    exact py_iret G0 hr rfl hlk hw ⟨⟨by omega, by omega⟩, (by first | omega | (intro q; omega)), (by have hz := rs_co_eq ca; omega), rfl, rfl⟩ dX4_chainOf_67
  · skip
    have te := ti_eq e_sw
    refine lv_lookup (off := 59) (tgt := 60) G0.1 G0.2.1 dX4_chainOf_1 (by decide) (by rw [e_sw]; decide) (by decide) ?_
    refine lv_iconst (v := 0) G0.1 G0.2.1 dX4_chainOf_60 (by decide) ?_
    exact py_iret G0 hr rfl hlk hw ⟨⟨by omega, by omega⟩, (by first | omega | (intro q; omega)), (by have hz := rs_co_eq ca; omega), rfl, rfl⟩ dX4_chainOf_61
  · skip
    have te0 := ti_ne e_sw.1
    have te1 := ti_ne e_sw.2.1
    have te2 := ti_ne e_sw.2.2.1
    have te3 := ti_ne e_sw.2.2.2.1
    have te4 := ti_ne e_sw.2.2.2.2.1
    have te5 := ti_ne e_sw.2.2.2.2.2
    refine lv_lookup (off := 67) (tgt := 68) G0.1 G0.2.1 dX4_chainOf_1 (by decide) ((lv_osw e_sw.1 (rfl : (38 : Int32).toInt = 38)).trans ((lv_osw e_sw.2.1 (rfl : (42 : Int32).toInt = 42)).trans ((lv_osw e_sw.2.2.1 (rfl : (43 : Int32).toInt = 43)).trans ((lv_osw e_sw.2.2.2.1 (rfl : (45 : Int32).toInt = 45)).trans ((lv_osw e_sw.2.2.2.2.1 (rfl : (47 : Int32).toInt = 47)).trans ((lv_osw e_sw.2.2.2.2.2 (rfl : (124 : Int32).toInt = 124)).trans rfl)))))) (by decide) ?_
    refine lv_iconst (v := (-1)) G0.1 G0.2.1 dX4_chainOf_68 (by decide) ?_
    exact py_iret G0 hr rfl hlk hw ⟨⟨by omega, by omega⟩, (by first | omega | (intro q; omega)), (by have hz := rs_co_eq ca; omega), rfl, rfl⟩ dX4_chainOf_69

def w_X4_isComparison : List Cond := .code yX4_isComparison cX4_isComparison 1 (some .boolean) :: ([] ++ ([]))
set_option maxHeartbeats 4000000 in
set_option maxRecDepth 100000 in
theorem c_X4_isComparison (l : Launch) (E : py_E) (G : wf_G) (L : List Nat) (f : py_F) (sz : Nat) (a : Int32) (ca : Int) (hG : GT G) (hWF : WF E G L f) (hp0 : a.toInt = ca) : Met l yX4_isComparison w_X4_isComparison ({ frames := 0, cells := 0, slots := 0, locals := 0 }) (py_Pc E [.int a] L f sz) (py_Qi E L f sz (fun r L1 f1 => (0 ≤ r.toInt ∧ r.toInt ≤ 1) ∧ (r.toInt ≠ 0 → a.toInt ≠ 0) ∧ (r.toInt ≠ 0 → ca = 61 ∨ ca = 60 ∨ ca = 62) ∧ (r.toInt = 0 → ca ≠ 61 ∧ ca ≠ 60 ∧ ca ≠ 62) ∧ L = L1 ∧ f = f1)) 0 0 (va_A (va_pl L f) sz) := by
  refine Met.ofW (cc := cX4_isComparison) (maxL := 1) (ret := (some .boolean)) (by decide) rfl ?_
  intro p e s m args below meth c s₁ B hml hv
  obtain ⟨rfl, rfl, hw⟩ := py_start hv
  have G0 : CallFix p m c cX4_isComparison 1 s _ w_X4_isComparison RX4 := ⟨B.exec, B.bytes, hml, findClass_of_methodNamed B.named, atoms_spec (ws := w_X4_isComparison) B.pre⟩
  have hr := B.returns
  have hlk := B.notSynchronized
  have kcm1 : (-1 : Int32).toInt = -1 := rfl
  have kc0 : (0 : Int32).toInt = 0 := rfl
  have kc1 : (1 : Int32).toInt = 1 := rfl
  have kc60 : (60 : Int32).toInt = 60 := rfl
  have kc61 : (61 : Int32).toInt = 61 := rfl
  have kc62 : (62 : Int32).toInt = 62 := rfl
  have hl := lv_entry ([.int a]) (n := 1) (Nat.le_of_ble_eq_true rfl)
  rw [lg_entry_eq]
  generalize (lg_sl ([.int a]) ++ List.replicate (1 - (lg_sl ([.int a])).length) Slot.unset).toArray = ls at hl ⊢
  have hl : lv_has ls 1 [(0, .int a)] := hl
  have hRP : RP E G f f := RP.refl
  refine lv_iload_n G0.1 G0.2.1 dX4_isComparison_0 rfl (lv_at hl 0 rfl) ?_
  refine lv_bipush (v := 61) G0.1 G0.2.1 dX4_isComparison_1 (by decide) ?_
  refine lv_icmp_eq (tgt := 18) G0.1 G0.2.1 dX4_isComparison_3 (by decide) (fun c_1 => ?_) (fun c_1 => ?_)
  · skip
    have tc_1 := ti_eq c_1
    refine lv_iconst (v := 1) G0.1 G0.2.1 dX4_isComparison_18 (by decide) ?_
    refine lv_goto (tgt := 23) G0.1 G0.2.1 dX4_isComparison_19 (by decide) ?_
    exact py_iret G0 hr rfl hlk hw ⟨⟨by omega, by omega⟩, (by first | omega | (intro q; omega)), (by first | omega | (intro q; omega)), (by first | omega | (intro q; omega)), rfl, rfl⟩ dX4_isComparison_23
  · skip
    have tc_1 := ti_ne c_1
    refine lv_iload_n G0.1 G0.2.1 dX4_isComparison_6 rfl (lv_at hl 0 rfl) ?_
    refine lv_bipush (v := 60) G0.1 G0.2.1 dX4_isComparison_7 (by decide) ?_
    refine lv_icmp_eq (tgt := 18) G0.1 G0.2.1 dX4_isComparison_9 (by decide) (fun c_2 => ?_) (fun c_2 => ?_)
    · skip
      have tc_2 := ti_eq c_2
      refine lv_iconst (v := 1) G0.1 G0.2.1 dX4_isComparison_18 (by decide) ?_
      refine lv_goto (tgt := 23) G0.1 G0.2.1 dX4_isComparison_19 (by decide) ?_
      exact py_iret G0 hr rfl hlk hw ⟨⟨by omega, by omega⟩, (by first | omega | (intro q; omega)), (by first | omega | (intro q; omega)), (by first | omega | (intro q; omega)), rfl, rfl⟩ dX4_isComparison_23
    · skip
      have tc_2 := ti_ne c_2
      refine lv_iload_n G0.1 G0.2.1 dX4_isComparison_12 rfl (lv_at hl 0 rfl) ?_
      refine lv_bipush (v := 62) G0.1 G0.2.1 dX4_isComparison_13 (by decide) ?_
      refine lv_icmp_ne (tgt := 22) G0.1 G0.2.1 dX4_isComparison_15 (by decide) (fun c_3 => ?_) (fun c_3 => ?_)
      · skip
        have tc_3 := ti_ne c_3
        refine lv_iconst (v := 0) G0.1 G0.2.1 dX4_isComparison_22 (by decide) ?_
        exact py_iret G0 hr rfl hlk hw ⟨⟨by omega, by omega⟩, (by first | omega | (intro q; omega)), (by first | omega | (intro q; omega)), (by first | omega | (intro q; omega)), rfl, rfl⟩ dX4_isComparison_23
      · skip
        have tc_3 := ti_eq c_3
        refine lv_iconst (v := 1) G0.1 G0.2.1 dX4_isComparison_18 (by decide) ?_
        refine lv_goto (tgt := 23) G0.1 G0.2.1 dX4_isComparison_19 (by decide) ?_
        exact py_iret G0 hr rfl hlk hw ⟨⟨by omega, by omega⟩, (by first | omega | (intro q; omega)), (by first | omega | (intro q; omega)), (by first | omega | (intro q; omega)), rfl, rfl⟩ dX4_isComparison_23
