theorem l22_up {G : wf_G} {g : Nat → Option Nat} {k d : Nat} (hc : ∀ i z : Nat, g i = some z → G.1 z = 4) (td : G.1 d = 4) : ∀ i z : Nat, va_up g k (some d) i = some z → G.1 z = 4 := by
  intro i z h
  by_cases e : i = k
  · subst e
    rw [va_up_self] at h
    cases h
    exact td
  · rw [va_up_ne _ _ e] at h
    exact hc i z h
theorem dX11_tellLaw_0 : decode cX11_tellLaw 0 = .ok (.aload_n 0, 1) := by decide +kernel
theorem dX11_tellLaw_1 : decode cX11_tellLaw 1 = .ok (.getfield 94, 3) := by decide +kernel
theorem dX11_tellLaw_4 : decode cX11_tellLaw 4 = .ok (.istore_n 1, 1) := by decide +kernel
theorem dX11_tellLaw_5 : decode cX11_tellLaw 5 = .ok (.aload_n 0, 1) := by decide +kernel
theorem dX11_tellLaw_6 : decode cX11_tellLaw 6 = .ok (.getfield 32, 3) := by decide +kernel
theorem dX11_tellLaw_9 : decode cX11_tellLaw 9 = .ok (.iload_n 1, 1) := by decide +kernel
theorem dX11_tellLaw_10 : decode cX11_tellLaw 10 = .ok (.aload_n 0, 1) := by decide +kernel
theorem dX11_tellLaw_11 : decode cX11_tellLaw 11 = .ok (.getfield 26, 3) := by decide +kernel
theorem dX11_tellLaw_14 : decode cX11_tellLaw 14 = .ok (.getfield 360, 3) := by decide +kernel
theorem dX11_tellLaw_17 : decode cX11_tellLaw 17 = .ok (.aastore, 1) := by decide +kernel
theorem dX11_tellLaw_18 : decode cX11_tellLaw 18 = .ok (.aload_n 0, 1) := by decide +kernel
theorem dX11_tellLaw_19 : decode cX11_tellLaw 19 = .ok (.getfield 26, 3) := by decide +kernel
theorem dX11_tellLaw_22 : decode cX11_tellLaw 22 = .ok (.new 30, 3) := by decide +kernel
theorem dX11_tellLaw_25 : decode cX11_tellLaw 25 = .ok (.dup, 1) := by decide +kernel
theorem dX11_tellLaw_26 : decode cX11_tellLaw 26 = .ok (.invokespecial 362, 3) := by decide +kernel
theorem dX11_tellLaw_29 : decode cX11_tellLaw 29 = .ok (.putfield 360, 3) := by decide +kernel
theorem dX11_tellLaw_32 : decode cX11_tellLaw 32 = .ok (.aload_n 0, 1) := by decide +kernel
theorem dX11_tellLaw_33 : decode cX11_tellLaw 33 = .ok (.iload_n 1, 1) := by decide +kernel
theorem dX11_tellLaw_34 : decode cX11_tellLaw 34 = .ok (.iconst 1, 1) := by decide +kernel
theorem dX11_tellLaw_35 : decode cX11_tellLaw 35 = .ok (.iadd, 1) := by decide +kernel
theorem dX11_tellLaw_36 : decode cX11_tellLaw 36 = .ok (.putfield 94, 3) := by decide +kernel
theorem dX11_tellLaw_39 : decode cX11_tellLaw 39 = .ok (.aload_n 0, 1) := by decide +kernel
theorem dX11_tellLaw_40 : decode cX11_tellLaw 40 = .ok (.getfield 10, 3) := by decide +kernel
theorem dX11_tellLaw_43 : decode cX11_tellLaw 43 = .ok (.iconst 0, 1) := by decide +kernel
theorem dX11_tellLaw_44 : decode cX11_tellLaw 44 = .ok (.putfield 109, 3) := by decide +kernel
theorem dX11_tellLaw_47 : decode cX11_tellLaw 47 = .ok (.iload_n 1, 1) := by decide +kernel
theorem dX11_tellLaw_48 : decode cX11_tellLaw 48 = .ok (.ireturn, 1) := by decide +kernel
theorem dX11_text_0 : decode cX11_text 0 = .ok (.iload_n 1, 1) := by decide +kernel
theorem dX11_text_1 : decode cX11_text 1 = .ok (.ifCond .ne 23, 3) := by decide +kernel
theorem dX11_text_4 : decode cX11_text 4 = .ok (.aload_n 0, 1) := by decide +kernel
theorem dX11_text_5 : decode cX11_text 5 = .ok (.getfield 19, 3) := by decide +kernel
theorem dX11_text_8 : decode cX11_text 8 = .ok (.aload_n 0, 1) := by decide +kernel
theorem dX11_text_9 : decode cX11_text 9 = .ok (.getfield 10, 3) := by decide +kernel
theorem dX11_text_12 : decode cX11_text 12 = .ok (.invokevirtual 116, 3) := by decide +kernel
theorem dX11_text_15 : decode cX11_text 15 = .ok (.iconst (-1), 1) := by decide +kernel
theorem dX11_text_16 : decode cX11_text 16 = .ok (.if_icmp .ne 8, 3) := by decide +kernel
theorem dX11_text_19 : decode cX11_text 19 = .ok (.aload_n 0, 1) := by decide +kernel
theorem dX11_text_20 : decode cX11_text 20 = .ok (.invokevirtual 121, 3) := by decide +kernel
theorem dX11_text_23 : decode cX11_text 23 = .ok (.ireturn, 1) := by decide +kernel
theorem dX11_text_24 : decode cX11_text 24 = .ok (.iload_n 1, 1) := by decide +kernel
theorem dX11_text_25 : decode cX11_text 25 = .ok (.iconst 1, 1) := by decide +kernel
theorem dX11_text_26 : decode cX11_text 26 = .ok (.if_icmp .ne 31, 3) := by decide +kernel
theorem dX11_text_29 : decode cX11_text 29 = .ok (.aload_n 0, 1) := by decide +kernel
theorem dX11_text_30 : decode cX11_text 30 = .ok (.getfield 94, 3) := by decide +kernel
theorem dX11_text_33 : decode cX11_text 33 = .ok (.iconst 4, 1) := by decide +kernel
theorem dX11_text_34 : decode cX11_text 34 = .ok (.if_icmp .ge 23, 3) := by decide +kernel
theorem dX11_text_37 : decode cX11_text 37 = .ok (.aload_n 0, 1) := by decide +kernel
theorem dX11_text_38 : decode cX11_text 38 = .ok (.getfield 26, 3) := by decide +kernel
theorem dX11_text_41 : decode cX11_text 41 = .ok (.aload_n 0, 1) := by decide +kernel
theorem dX11_text_42 : decode cX11_text 42 = .ok (.getfield 10, 3) := by decide +kernel
theorem dX11_text_45 : decode cX11_text 45 = .ok (.invokevirtual 120, 3) := by decide +kernel
theorem dX11_text_48 : decode cX11_text 48 = .ok (.iconst (-1), 1) := by decide +kernel
theorem dX11_text_49 : decode cX11_text 49 = .ok (.if_icmp .ne 8, 3) := by decide +kernel
theorem dX11_text_52 : decode cX11_text 52 = .ok (.aload_n 0, 1) := by decide +kernel
theorem dX11_text_53 : decode cX11_text 53 = .ok (.invokevirtual 125, 3) := by decide +kernel
theorem dX11_text_56 : decode cX11_text 56 = .ok (.ireturn, 1) := by decide +kernel
theorem dX11_text_57 : decode cX11_text 57 = .ok (.iconst (-1), 1) := by decide +kernel
theorem dX11_text_58 : decode cX11_text 58 = .ok (.ireturn, 1) := by decide +kernel
def w_X11_tellLaw : List Cond := .code yX11_tellLaw cX11_tellLaw 2 (some .int) :: ([Cond.fieldLink RX11 360 "HeadYear$LawReader" "draft" "LHeadYear$Law;", Cond.fieldLink RX11 94 "HeadYear" "lawCount" "I", Cond.fieldLink RX11 10 "HeadYear" "tape" "LHeadYear$Tape;", Cond.fieldLink RX11 109 "HeadYear$Tape" "length" "I", Cond.fieldLink RX11 32 "HeadYear" "laws" "[LHeadYear$Law;", Cond.fieldLink RX11 26 "HeadYear" "lawReader" "LHeadYear$LawReader;", Cond.classLink RX11 30 RX3, Cond.instantiable RX3 3, Cond.initialized RX3, Cond.instanceMethod yX3_init] ++ (u_ws RX4 TX4 1 ++ (u_ws RX11 TX11 16 ++ (u_ws RX8 TX8 4 ++ (u_ws RX3 TX3 3 ++ (w_X3_init ++ ([])))))))
theorem in_X11_tellLaw_X4 : ∀ w ∈ u_ws RX4 TX4 1, w ∈ w_X11_tellLaw := fun _ h => List.mem_cons_of_mem _ (List.mem_append_right _ (List.mem_append_left _ h))
theorem in_X11_tellLaw_X11 : ∀ w ∈ u_ws RX11 TX11 16, w ∈ w_X11_tellLaw := fun _ h => List.mem_cons_of_mem _ (List.mem_append_right _ (List.mem_append_right _ (List.mem_append_left _ h)))
theorem in_X11_tellLaw_X8 : ∀ w ∈ u_ws RX8 TX8 4, w ∈ w_X11_tellLaw := fun _ h => List.mem_cons_of_mem _ (List.mem_append_right _ (List.mem_append_right _ (List.mem_append_right _ (List.mem_append_left _ h))))
theorem in_X11_tellLaw_X3 : ∀ w ∈ u_ws RX3 TX3 3, w ∈ w_X11_tellLaw := fun _ h => List.mem_cons_of_mem _ (List.mem_append_right _ (List.mem_append_right _ (List.mem_append_right _ (List.mem_append_right _ (List.mem_append_left _ h)))))
theorem gg_X11_tellLaw_X3_init : GoodIn w_X11_tellLaw w_X3_init := goodIn_sub (fun _ h => List.mem_cons_of_mem _ (List.mem_append_right _ (List.mem_append_right _ (List.mem_append_right _ (List.mem_append_right _ (List.mem_append_right _ (List.mem_append_left _ h))))))) (by decide +kernel)
theorem g_X11_tellLaw_X3_init_362 : GoodIn w_X11_tellLaw w_X3_init := gg_X11_tellLaw_X3_init
set_option maxHeartbeats 4000000 in
set_option maxRecDepth 100000 in
theorem tl_tail {p : Program} {l : Launch} {e : Env} {R : Room} {s : State} {m : MethodId} {args : Array Value} {below : List Frame} {meth : Method} {c : Code} {H : Heap} {locs : List Loc} {cells slots : Nat} {Q : State → Prop} (G0 : CallFix p m c cX11_tellLaw 2 s args w_X11_tellLaw RX11) {E : py_E} {G : wf_G} {L : List Nat} {f : py_F} {A : Nat → Prop} (hG : GT G) (hWF : WF E G L f) {x q lr : Nat} {n : Int32} (Tx : G.1 x = 12) (tq : G.1 q = 4) (tlr : G.1 lr = 5) (hGI : GI E G f x) (hn : hy_n f x = n.toInt) (hn3 : n.toInt ≤ 3) (hn0 : 0 ≤ n.toInt) (hLO : LO f (G.2 x 3) (n.toInt + 1)) (hw : py_W E A s L f H locs) {ls : Array Slot} (hl : lv_has ls 2 [(1, .int n), (0, .ref x)]) (kk : ∀ (L1 : List Nat) (f1 : py_F) (H1 : Heap) (locs1 : List Loc) (r : Int32), WF E G L1 f1 → KP G [22, 5, 12, 9] false f f1 → GI E G f1 x → py_W E A s L1 f1 H1 locs1 → W p l e R s m args below meth c H1 locs1 cells slots Q (F0 m 48 ls [.int r])) : W p l e R s m args below meth c H locs cells slots Q (F0 m 29 ls [.ref q, .ref lr]) := by
  have kcm1 : (-1 : Int32).toInt = -1 := rfl
  have kc0 : (0 : Int32).toInt = 0 := rfl
  have kc1 : (1 : Int32).toInt = 1 := rfl
  have hKP : KP G [22, 5, 12, 9] false f f := KP.refl
  obtain ⟨t_1, t_2, t_3, t_4, t_5, t_6, t_7, t_8, t_9, t_10, t_11, t_12, t_13, tx_14, tx_15, tx_16, tx_17⟩ := wt_11 hG Tx
  obtain ⟨r_18, hr_20, ty_19⟩ := wg_4 hWF tlr
  refine py_put (C := RX4) (T := TX4) (N := 1) (k := 0) (v := .ref q) (fs' := [.ref q]) (ty0 := tyX4) G0 hw tyX4_ok nmX4 in_X11_tellLaw_X4 rfl hr_20 (by decide) (by decide +kernel) rfl rfl rfl rfl (Nat.le_of_ble_eq_true rfl) rfl dX11_tellLaw_29 (fun f_21 H_22 locs h_23 x_24 hw => ?_)
  have hLO := hLO.same (x_24 _ (hWF _ (by rw [(wt_11 hG Tx).2.2.2.1]; decide)).1 (wf_ne (wt_11 hG Tx).2.2.2.1 tlr (by decide))).2
  have hn := (hy_same (x_24 _ (hWF _ (by rw [Tx]; decide)).1 (wf_ne Tx tlr (by decide))).2).1.trans hn
  have hGI := hGI.kp hG Tx (fo_ty hWF t_6) (rp_upd hG hWF x_24 hr_20.2 h_23.2 (rp_code hG tlr (by decide)) rfl : RP E G f f_21) (KP.refl.upd hWF x_24 tlr (Or.inl (by decide)) : KP G [5] false f f_21) (by decide)
  have hKP := hKP.upd hWF x_24 tlr (Or.inl (by decide))
  have hWF := wf_upd hWF h_23 x_24 (by rw [tlr]; exact ⟨q, rfl, tq⟩)
  refine lv_aload_n G0.1 G0.2.1 dX11_tellLaw_32 rfl (lv_at hl 1 rfl) ?_
  refine lv_iload_n G0.1 G0.2.1 dX11_tellLaw_33 rfl (lv_at hl 0 rfl) ?_
  refine lv_iconst (v := 1) G0.1 G0.2.1 dX11_tellLaw_34 (by decide) ?_
  refine lv_iadd G0.1 G0.2.1 dX11_tellLaw_35 ?_
  refine lv_topi (fun x_25 ex_25 => ?_)
  first | have tx_25 := ti_add ex_25 (by omega) (by omega) | skip
  obtain ⟨v_26, v_27, v_28, hr_32, b_29, b_30, b_31⟩ := wg_11 hWF Tx
  have tq_33 := hy_eq hr_32
  refine py_put (C := RX11) (T := TX11) (N := 16) (k := 13) (v := .int x_25) (fs' := [.ref (G.2 x 0), .ref (G.2 x 1), .ref (G.2 x 2), .ref (G.2 x 3), .ref (G.2 x 4), .ref (G.2 x 5), .ref (G.2 x 6), .ref (G.2 x 7), .ref (G.2 x 8), .ref (G.2 x 9), .ref (G.2 x 10), .ref (G.2 x 11), .ref (G.2 x 12), .int x_25, .int v_27, .int v_28]) (ty0 := tyX11) G0 hw tyX11_ok nmX11 in_X11_tellLaw_X11 rfl hr_32 (by decide) (by decide +kernel) rfl rfl rfl rfl (Nat.le_of_ble_eq_true rfl) rfl dX11_tellLaw_36 (fun f_34 H_35 locs h_36 x_37 hw => ?_)
  have hGI := hGI.cnt hG hWF Tx x_37 (rp_upd hG hWF x_37 hr_32.2 h_36.2 (rp_code hG Tx (by decide)) rfl : RP E G f_21 f_34) (by rw [show hy_n f_34 x = n.toInt + 1 by have z2 := hy_eq h_36; omega]; exact hLO) (by have z1 := hy_eq hr_32; have z2 := hy_eq h_36; omega)
  have hKP := hKP.upd hWF x_37 Tx (Or.inl (by decide))
  have hWF := wf_upd hWF h_36 x_37 (by rw [Tx]; exact ⟨x_25, v_27, v_28, rfl, ⟨by omega, by omega⟩, ⟨by omega, by omega⟩, ⟨by omega, by omega⟩⟩)
  have tq_38 := hy_eq h_36
  have h_23 := h_23.ext x_37 (py_ne_kind h_23 hr_32 (by decide))
  refine lv_aload_n G0.1 G0.2.1 dX11_tellLaw_39 rfl (lv_at hl 1 rfl) ?_
  refine py_get (C := RX11) (T := TX11) (N := 16) (k := 0) (v := .ref (G.2 x 0)) G0 hw in_X11_tellLaw_X11 rfl h_36 (by decide) (by decide +kernel) rfl dX11_tellLaw_40 ?_
  refine lv_iconst (v := 0) G0.1 G0.2.1 dX11_tellLaw_43 (by decide) ?_
  have t_39 := wt_8 hG t_1
  obtain ⟨v_40, v_41, v_42, hr_45, b_43, b_44⟩ := wg_8 hWF t_1
  have bv_42 := wf_free v_42
  have tq_46 := tp_eq hr_45
  refine py_put (C := RX8) (T := TX8) (N := 4) (k := 1) (v := .int 0) (fs' := [.ref (G.2 (G.2 x 0) 0), .int 0, .int v_41, .int v_42]) (ty0 := tyX8) G0 hw tyX8_ok nmX8 in_X11_tellLaw_X8 rfl hr_45 (by decide) (by decide +kernel) rfl rfl rfl rfl (Nat.le_of_ble_eq_true rfl) rfl dX11_tellLaw_44 (fun f_47 H_48 locs h_49 x_50 hw => ?_)
  have hGI := hGI.kp hG Tx (fo_ty hWF t_6) (rp_upd hG hWF x_50 hr_45.2 h_49.2 (rp_code hG t_1 (by decide)) rfl : RP E G f_34 f_47) (KP.refl.upd hWF x_50 t_1 (Or.inl (by decide)) : KP G [9] false f_34 f_47) (by decide)
  have hKP := hKP.upd hWF x_50 t_1 (Or.inl (by decide))
  have hWF := wf_upd hWF h_49 x_50 (by rw [t_1]; exact ⟨0, v_41, v_42, rfl, ⟨by omega, by omega⟩, ⟨by omega, by omega⟩⟩)
  have tq_51 := tp_eq h_49
  have h_36 := h_36.ext x_50 (py_ne_kind h_36 hr_45 (by decide))
  have tq_52 := hy_eq h_36
  have h_23 := h_23.ext x_50 (py_ne_kind h_23 hr_45 (by decide))
  refine lv_iload_n G0.1 G0.2.1 dX11_tellLaw_47 rfl (lv_at hl 0 rfl) ?_
  exact kk _ _ _ _ _ hWF hKP hGI hw
set_option maxHeartbeats 4000000 in
set_option maxRecDepth 100000 in
theorem c_X11_tellLaw (l : Launch) (E : py_E) (G : wf_G) (L : List Nat) (f : py_F) (sz : Nat) (x : Nat) (hG : GT G) (hWF : WF E G L f) (Tx : G.1 x = 12) (hp0 : hy_n f x ≤ 3) (hq0 : GI E G f x) : Met l yX11_tellLaw w_X11_tellLaw ({ frames := 2, cells := 3, slots := 195, locals := 32 }) (py_Pc E [.ref x] L f sz) (py_Qi E L f sz (fun _ L1 f1 => ∃ G1 : wf_G, GX G G1 ∧ GT G1 ∧ WF E G1 L1 f1 ∧ GI E G1 f1 x ∧ KP G [22, 5, 12, 9] false f f1)) 3 195 (va_A (va_pl L f) sz) := by
  refine Met.ofW (cc := cX11_tellLaw) (maxL := 2) (ret := (some .int)) (by decide) rfl ?_
  intro p e s m args below meth c s₁ B hml hv
  obtain ⟨rfl, rfl, hw⟩ := py_start hv
  have G0 : CallFix p m c cX11_tellLaw 2 s _ w_X11_tellLaw RX11 := ⟨B.exec, B.bytes, hml, findClass_of_methodNamed B.named, atoms_spec (ws := w_X11_tellLaw) B.pre⟩
  have hr := B.returns
  have hlk := B.notSynchronized
  have kcm1 : (-1 : Int32).toInt = -1 := rfl
  have kc0 : (0 : Int32).toInt = 0 := rfl
  have kc1 : (1 : Int32).toInt = 1 := rfl
  have hl := lv_entry ([.ref x]) (n := 2) (Nat.le_of_ble_eq_true rfl)
  rw [lg_entry_eq]
  generalize (lg_sl ([.ref x]) ++ List.replicate (2 - (lg_sl ([.ref x])).length) Slot.unset).toArray = ls at hl ⊢
  have hl : lv_has ls 2 [(0, .ref x)] := hl
  have hGI := hq0
  have hKP : KP G [22, 5, 12, 9] false f f := KP.refl
  obtain ⟨t_1, t_2, t_3, t_4, t_5, t_6, t_7, t_8, t_9, t_10, t_11, t_12, t_13, tx_14, tx_15, tx_16, tx_17⟩ := wt_11 hG Tx
  refine lv_aload_n G0.1 G0.2.1 dX11_tellLaw_0 rfl (lv_at hl 0 rfl) ?_
  obtain ⟨v_18, v_19, v_20, hr_24, b_21, b_22, b_23⟩ := wg_11 hWF Tx
  have tq_25 := hy_eq hr_24
  refine py_get (C := RX11) (T := TX11) (N := 16) (k := 13) (v := .int v_18) G0 hw in_X11_tellLaw_X11 rfl hr_24 (by decide) (by decide +kernel) rfl dX11_tellLaw_1 ?_
  refine lv_istore_n (lv' := [(1, .int v_18), (0, .ref x)]) G0.1 G0.2.1 dX11_tellLaw_4 rfl hl (by decide) rfl (fun ls hl => ?_)
  refine lv_aload_n G0.1 G0.2.1 dX11_tellLaw_5 rfl (lv_at hl 1 rfl) ?_
  refine py_get (C := RX11) (T := TX11) (N := 16) (k := 3) (v := .ref (G.2 x 3)) G0 hw in_X11_tellLaw_X11 rfl hr_24 (by decide) (by decide +kernel) rfl dX11_tellLaw_6 ?_
  refine lv_iload_n G0.1 G0.2.1 dX11_tellLaw_9 rfl (lv_at hl 0 rfl) ?_
  refine lv_aload_n G0.1 G0.2.1 dX11_tellLaw_10 rfl (lv_at hl 1 rfl) ?_
  refine py_get (C := RX11) (T := TX11) (N := 16) (k := 2) (v := .ref (G.2 x 2)) G0 hw in_X11_tellLaw_X11 rfl hr_24 (by decide) (by decide +kernel) rfl dX11_tellLaw_11 ?_
  obtain ⟨r_26, hr_28, ty_27⟩ := wg_4 hWF t_3
  refine py_get (C := RX4) (T := TX4) (N := 1) (k := 0) (v := .ref r_26) G0 hw in_X11_tellLaw_X4 rfl hr_28 (by decide) (by decide +kernel) rfl dX11_tellLaw_14 ?_
  obtain ⟨t_29, t_30⟩ := wt_3 hG ty_27
  obtain ⟨v_31, hr_33, b_32⟩ := wg_3 hWF ty_27
  obtain ⟨g_34, ha_35, hc_36⟩ := wf_l22 hWF t_4
  have rg_37 : vp_in v_18 4 := ti_in (by omega) (by omega)
  refine py_aast G0 hw ha_35 hr_33 rg_37 dX11_tellLaw_17 (fun f_38 H_39 locs h_40 x_41 hw => ?_)
  have hgl := hGI.laws hG hWF Tx x_41 ha_35 h_40 (by omega) (by omega)
  have hGI := hgl.1
  have hLO := hgl.2
  have hn1 := (hy_same (x_41 _ (hWF _ (by rw [Tx]; decide)).1 (wf_ne Tx t_4 (by decide))).2).1
  have hKP := hKP.upd hWF x_41 t_4 (Or.inl (by decide))
  have hWF := wf_upd hWF h_40 x_41 (by rw [t_4]; exact ⟨_, rfl, l22_up hc_36 ty_27⟩)
  refine lv_aload_n G0.1 G0.2.1 dX11_tellLaw_18 rfl (lv_at hl 1 rfl) ?_
  obtain ⟨v_42, v_43, v_44, hr_48, b_45, b_46, b_47⟩ := wg_11 hWF Tx
  have tq_49 := hy_eq hr_48
  refine py_get (C := RX11) (T := TX11) (N := 16) (k := 2) (v := .ref (G.2 x 2)) G0 hw in_X11_tellLaw_X11 rfl hr_48 (by decide) (by decide +kernel) rfl dX11_tellLaw_19 ?_
  refine py_new (C := RX3) (T := TX3) (N := 3) (ci := 3) (fs := [.null, .null, .int 0]) (ty0 := tyX3) G0 hw tyX3_ok in_X11_tellLaw_X3 rfl (by decide +kernel) (by decide +kernel) (by decide +kernel) (fun j hj => match j, hj with | 0, _ => rfl | 1, _ => rfl | 2, _ => rfl | n + 3, h => absurd h (by omega)) (Nat.le_of_ble_eq_true rfl) (Nat.le_of_ble_eq_true rfl) dX11_tellLaw_22 (fun q La fa Ha hq h1 x1 hw => ?_)
  refine lv_dup G0.1 G0.2.1 dX11_tellLaw_25 rfl ?_
  refine py_callv hw (va_runIN (As := []) (rest := [.ref q, .ref (G.2 x 2)]) G0 (c_X3_init l E La fa Ha.size q h1) ⟨va_cnB 0 G0.2.2.2.2 g_X11_tellLaw_X3_init_362 rfl rfl rfl (hw.1.2.2 (RX11, 362, yX3_init) (List.mem_of_getElem? (i := 11) rfl)) (G0.2.2.2.2 (Cond.initialized RX3) (by decide +kernel)) (by decide +kernel) ⟨(Nat.le_of_ble_eq_true rfl), (Nat.le_of_ble_eq_true rfl)⟩, rfl, G0.2.2.2.2 (Cond.instanceMethod yX3_init) (by decide +kernel)⟩ (py_preS hw) rfl rfl hl.1 rfl (lv_room (Nat.le_of_ble_eq_true rfl)) dX11_tellLaw_26 ⟨(Nat.le_of_ble_eq_true rfl), (Nat.le_of_ble_eq_true rfl)⟩) (fun Lb fb Hb locs hp hw => ?_)
  obtain ⟨co, st, hq2, hco, hst, nco, nst, ncs, x2⟩ := hp
  obtain ⟨G1, gx, hZ, tq, hall⟩ := newlaw_ty ⟨hG, hWF, hGI.1⟩ hq x1 hq2 hco hst nco nst ncs x2
  have e3 := (hall _ (hWF _ (by rw [(wt_11 hG Tx).2.2.2.1]; decide)).1).2
  have hn2 := (hy_same (hall x (hWF _ (by rw [Tx]; decide)).1).2).1
  have hLO : LO fb (G1.2 x 3) (v_18.toInt + 1) := by rw [(gx x (by rw [Tx]; decide)).2 3]; exact hLO.same e3
  have hKP := hKP.trans (kp_ofall (G := G) (ws := []) (own := false) hWF (fun b hb => (hall b hb).2)) (by decide) (by decide)
  have hGI := hGI.gx hG hWF Tx gx (fun b hb => (hall b (hWF b hb).1).2) hZ.2.2
  refine tl_tail G0 hZ.1 hZ.2.1 (gx.ty Tx (by decide)) tq (gx.ty t_3 (by decide)) hGI (by omega) (by omega) (by omega) hLO hw (lv_sub hl [0, 1] rfl) (fun L1 f1 H1 locs r hWF kp1 hGI hw => ?_)
  exact py_iret G0 hr rfl hlk hw ⟨G1, gx, hZ.1, hWF, hGI, hKP.trans (kp_gx gx kp1) (by decide) (by decide)⟩ dX11_tellLaw_48

def w_X11_text : List Cond := .code yX11_text cX11_text 2 (some .int) :: ([Cond.fieldLink RX11 94 "HeadYear" "lawCount" "I", Cond.fieldLink RX11 26 "HeadYear" "lawReader" "LHeadYear$LawReader;", Cond.fieldLink RX11 10 "HeadYear" "tape" "LHeadYear$Tape;", Cond.methodLink RX11 120 yX4_faultOf, Cond.instanceMethod yX4_faultOf, Cond.selects RX4 yX4_faultOf yX4_faultOf, Cond.initialized RX4, Cond.methodLink RX11 125 yX11_tellLaw, Cond.instanceMethod yX11_tellLaw, Cond.selects RX11 yX11_tellLaw yX11_tellLaw, Cond.initialized RX11, Cond.fieldLink RX11 19 "HeadYear" "valleyReader" "LHeadYear$ValleyReader;", Cond.methodLink RX11 116 yX10_faultOf, Cond.instanceMethod yX10_faultOf, Cond.selects RX10 yX10_faultOf yX10_faultOf, Cond.initialized RX10, Cond.methodLink RX11 121 yX11_tellValley, Cond.instanceMethod yX11_tellValley, Cond.selects RX11 yX11_tellValley yX11_tellValley] ++ (u_ws RX11 TX11 16 ++ (w_X4_faultOf ++ (w_X11_tellLaw ++ (w_X10_faultOf ++ (w_X11_tellValley ++ ([])))))))
theorem in_X11_text_X11 : ∀ w ∈ u_ws RX11 TX11 16, w ∈ w_X11_text := fun _ h => List.mem_cons_of_mem _ (List.mem_append_right _ (List.mem_append_left _ h))
theorem gg_X11_text_X4_faultOf : GoodIn w_X11_text w_X4_faultOf := goodIn_sub (fun _ h => List.mem_cons_of_mem _ (List.mem_append_right _ (List.mem_append_right _ (List.mem_append_left _ h)))) (by decide +kernel)
theorem gg_X11_text_X11_tellLaw : GoodIn w_X11_text w_X11_tellLaw := goodIn_sub (fun _ h => List.mem_cons_of_mem _ (List.mem_append_right _ (List.mem_append_right _ (List.mem_append_right _ (List.mem_append_left _ h))))) (by decide +kernel)
theorem gg_X11_text_X10_faultOf : GoodIn w_X11_text w_X10_faultOf := goodIn_sub (fun _ h => List.mem_cons_of_mem _ (List.mem_append_right _ (List.mem_append_right _ (List.mem_append_right _ (List.mem_append_right _ (List.mem_append_left _ h)))))) (by decide +kernel)
theorem gg_X11_text_X11_tellValley : GoodIn w_X11_text w_X11_tellValley := goodIn_sub (fun _ h => List.mem_cons_of_mem _ (List.mem_append_right _ (List.mem_append_right _ (List.mem_append_right _ (List.mem_append_right _ (List.mem_append_right _ (List.mem_append_left _ h))))))) (by decide +kernel)
theorem g_X11_text_X10_faultOf_116 : GoodIn w_X11_text (wsV RX11 116 RX10 yX10_faultOf w_X10_faultOf) := goodIn_app (goodIn_of _ (by decide +kernel)) gg_X11_text_X10_faultOf
theorem g_X11_text_X11_tellLaw_125 : GoodIn w_X11_text (wsV RX11 125 RX11 yX11_tellLaw w_X11_tellLaw) := goodIn_app (goodIn_of _ (by decide +kernel)) gg_X11_text_X11_tellLaw
theorem g_X11_text_X11_tellValley_121 : GoodIn w_X11_text (wsV RX11 121 RX11 yX11_tellValley w_X11_tellValley) := goodIn_app (goodIn_of _ (by decide +kernel)) gg_X11_text_X11_tellValley
theorem g_X11_text_X4_faultOf_120 : GoodIn w_X11_text (wsV RX11 120 RX4 yX4_faultOf w_X4_faultOf) := goodIn_app (goodIn_of _ (by decide +kernel)) gg_X11_text_X4_faultOf
set_option maxHeartbeats 4000000 in
set_option maxRecDepth 100000 in
theorem c_X11_text (l : Launch) (E : py_E) (G : wf_G) (L : List Nat) (f : py_F) (sz : Nat) (x : Nat) (a : Int32) (hG : GT G) (hWF : WF E G L f) (Tx : G.1 x = 12) (hq0 : GI E G f x) : Met l yX11_text w_X11_text ({ frames := 62, cells := 3, slots := 195, locals := 3315 }) (py_Pc E [.ref x, .int a] L f sz) (py_Qi E L f sz (fun _ L1 f1 => ∃ G1 : wf_G, GX G G1 ∧ GT G1 ∧ WF E G1 L1 f1 ∧ GI E G1 f1 x ∧ KP G [9, 36, 10, 24, 27, 25, 26, 4, 5, 20, 21, 22, 11, 3, 37, 30, 2, 1, 12] true f f1)) 3 195 (va_A (va_pl L f) sz) := by
  refine Met.ofW (cc := cX11_text) (maxL := 2) (ret := (some .int)) (by decide) rfl ?_
  intro p e s m args below meth c s₁ B hml hv
  obtain ⟨rfl, rfl, hw⟩ := py_start hv
  have G0 : CallFix p m c cX11_text 2 s _ w_X11_text RX11 := ⟨B.exec, B.bytes, hml, findClass_of_methodNamed B.named, atoms_spec (ws := w_X11_text) B.pre⟩
  have hr := B.returns
  have hlk := B.notSynchronized
  have kcm1 : (-1 : Int32).toInt = -1 := rfl
  have kc0 : (0 : Int32).toInt = 0 := rfl
  have kc1 : (1 : Int32).toInt = 1 := rfl
  have kc4 : (4 : Int32).toInt = 4 := rfl
  have hl := lv_entry ([.ref x, .int a]) (n := 2) (Nat.le_of_ble_eq_true rfl)
  rw [lg_entry_eq]
  generalize (lg_sl ([.ref x, .int a]) ++ List.replicate (2 - (lg_sl ([.ref x, .int a])).length) Slot.unset).toArray = ls at hl ⊢
  have hl : lv_has ls 2 [(0, .ref x), (1, .int a)] := hl
  have hGI := hq0
  have hKP : KP G [9, 36, 10, 24, 27, 25, 26, 4, 5, 20, 21, 22, 11, 3, 37, 30, 2, 1, 12] true f f := KP.refl
  obtain ⟨t_1, t_2, t_3, t_4, t_5, t_6, t_7, t_8, t_9, t_10, t_11, t_12, t_13, tx_14, tx_15, tx_16, tx_17⟩ := wt_11 hG Tx
  refine lv_iload_n G0.1 G0.2.1 dX11_text_0 rfl (lv_at hl 1 rfl) ?_
  refine lv_if_ne (tgt := 24) G0.1 G0.2.1 dX11_text_1 (by decide) (fun c_18 => ?_) (fun c_18 => ?_)
  · skip
    have tc_18 := ti_ne c_18
    refine lv_iload_n G0.1 G0.2.1 dX11_text_24 rfl (lv_at hl 1 rfl) ?_
    refine lv_iconst (v := 1) G0.1 G0.2.1 dX11_text_25 (by decide) ?_
    refine lv_icmp_ne (tgt := 57) G0.1 G0.2.1 dX11_text_26 (by decide) (fun c_19 => ?_) (fun c_19 => ?_)
    · skip
      have tc_19 := ti_ne c_19
      refine lv_iconst (v := (-1)) G0.1 G0.2.1 dX11_text_57 (by decide) ?_
      refine W.widen (k := 3) (n := 195) (Nat.le_of_ble_eq_true rfl) (Nat.le_of_ble_eq_true rfl) ?_
      exact py_iret G0 hr rfl hlk hw ⟨G, GX.refl, hG, hWF, hGI, hKP⟩ dX11_text_58
    · skip
      have tc_19 := ti_eq c_19
      refine lv_aload_n G0.1 G0.2.1 dX11_text_29 rfl (lv_at hl 0 rfl) ?_
      obtain ⟨v_20, v_21, v_22, hr_26, b_23, b_24, b_25⟩ := wg_11 hWF Tx
      have tq_27 := hy_eq hr_26
      refine py_get (C := RX11) (T := TX11) (N := 16) (k := 13) (v := .int v_20) G0 hw in_X11_text_X11 rfl hr_26 (by decide) (by decide +kernel) rfl dX11_text_30 ?_
      refine lv_iconst (v := 4) G0.1 G0.2.1 dX11_text_33 (by decide) ?_
      refine lv_icmp_ge (tgt := 57) G0.1 G0.2.1 dX11_text_34 (by decide) (fun c_28 => ?_) (fun c_28 => ?_)
      · skip
        have tc_28 := ti_le c_28
        refine lv_iconst (v := (-1)) G0.1 G0.2.1 dX11_text_57 (by decide) ?_
        refine W.widen (k := 3) (n := 195) (Nat.le_of_ble_eq_true rfl) (Nat.le_of_ble_eq_true rfl) ?_
        exact py_iret G0 hr rfl hlk hw ⟨G, GX.refl, hG, hWF, hGI, hKP⟩ dX11_text_58
      · skip
        have tc_28 := ti_nle c_28
        refine lv_aload_n G0.1 G0.2.1 dX11_text_37 rfl (lv_at hl 0 rfl) ?_
        refine py_get (C := RX11) (T := TX11) (N := 16) (k := 2) (v := .ref (G.2 x 2)) G0 hw in_X11_text_X11 rfl hr_26 (by decide) (by decide +kernel) rfl dX11_text_38 ?_
        refine lv_aload_n G0.1 G0.2.1 dX11_text_41 rfl (lv_at hl 0 rfl) ?_
        refine py_get (C := RX11) (T := TX11) (N := 16) (k := 0) (v := .ref (G.2 x 0)) G0 hw in_X11_text_X11 rfl hr_26 (by decide) (by decide +kernel) rfl dX11_text_42 ?_
        obtain ⟨r_29, hr_31, ty_30⟩ := wg_4 hWF t_3
        refine py_calli hw (va_runV (As := [.ref (G.2 x 0)]) (rest := []) G0 (c_X4_faultOf l E G L f s.heap.size (G.2 x 2) (G.2 x 0) hG hWF t_3 t_1) (cwV 1 G0.2.2.2.2 g_X11_text_X4_faultOf_120 rfl rfl rfl (by decide +kernel) ⟨(Nat.le_of_ble_eq_true rfl), (Nat.le_of_ble_eq_true rfl)⟩) (py_preV hw (C := RX4) (T := TX4) (N := 1) rfl hr_31) rfl rfl hl.1 rfl (lv_room (Nat.le_of_ble_eq_true rfl)) dX11_text_45 ⟨(Nat.le_of_ble_eq_true rfl), (Nat.le_of_ble_eq_true rfl)⟩) (fun r_36 L_32 f_33 H_34 locs hp_35 hw => ?_)
        have ht_40 := fo_ty hWF t_6
        obtain ⟨b_37, hWF, hq_38, kp_39⟩ := hp_35
        have hGI := hGI.kp hG Tx ht_40 hq_38 kp_39 (by decide)
        have hKP := hKP.trans kp_39 (by decide) (by decide)
        have hr_26 := kp_at kp_39 hWF Tx (by decide) (by decide) (by decide) hr_26
        have tq_41 := hy_eq hr_26
        have hr_31 := kp_at kp_39 hWF t_3 (by decide) (by decide) (by decide) hr_31
        refine lv_iconst (v := (-1)) G0.1 G0.2.1 dX11_text_48 (by decide) ?_
        refine lv_icmp_ne (tgt := 57) G0.1 G0.2.1 dX11_text_49 (by decide) (fun c_42 => ?_) (fun c_42 => ?_)
        · skip
          have tc_42 := ti_ne c_42
          refine lv_iconst (v := (-1)) G0.1 G0.2.1 dX11_text_57 (by decide) ?_
          refine W.widen (k := 3) (n := 195) (Nat.le_of_ble_eq_true rfl) (Nat.le_of_ble_eq_true rfl) ?_
          exact py_iret G0 hr rfl hlk hw ⟨G, GX.refl, hG, hWF, hGI, hKP⟩ dX11_text_58
        · skip
          have tc_42 := ti_eq c_42
          refine lv_aload_n G0.1 G0.2.1 dX11_text_52 rfl (lv_at hl 0 rfl) ?_
          refine py_calli hw (va_runV (As := []) (rest := []) G0 (c_X11_tellLaw l E G L_32 f_33 H_34.size x hG hWF Tx (show hy_n f_33 x ≤ 3 by omega) hGI) (cwV 0 G0.2.2.2.2 g_X11_text_X11_tellLaw_125 rfl rfl rfl (by decide +kernel) ⟨(Nat.le_of_ble_eq_true rfl), (Nat.le_of_ble_eq_true rfl)⟩) (py_preV hw (C := RX11) (T := TX11) (N := 16) rfl hr_26) rfl rfl hl.1 rfl (lv_room (Nat.le_of_ble_eq_true rfl)) dX11_text_53 ⟨(Nat.le_of_ble_eq_true rfl), (Nat.le_of_ble_eq_true rfl)⟩) (fun r_47 L_43 f_44 H_45 locs hp_46 hw => ?_)
          obtain ⟨G1, gx, hG1, hWF1, hGI1, kp1⟩ := hp_46
          have br_47 := wf_free r_47
          exact py_iret G0 hr rfl hlk hw ⟨G1, gx, hG1, hWF1, hGI1, hKP.trans kp1 (by decide) (by decide)⟩ dX11_text_56
  · skip
    have tc_18 := ti_eq c_18
    refine lv_aload_n G0.1 G0.2.1 dX11_text_4 rfl (lv_at hl 0 rfl) ?_
    obtain ⟨v_48, v_49, v_50, hr_54, b_51, b_52, b_53⟩ := wg_11 hWF Tx
    have tq_55 := hy_eq hr_54
    refine py_get (C := RX11) (T := TX11) (N := 16) (k := 1) (v := .ref (G.2 x 1)) G0 hw in_X11_text_X11 rfl hr_54 (by decide) (by decide +kernel) rfl dX11_text_5 ?_
    refine lv_aload_n G0.1 G0.2.1 dX11_text_8 rfl (lv_at hl 0 rfl) ?_
    refine py_get (C := RX11) (T := TX11) (N := 16) (k := 0) (v := .ref (G.2 x 0)) G0 hw in_X11_text_X11 rfl hr_54 (by decide) (by decide +kernel) rfl dX11_text_9 ?_
    have t_56 := wt_10 hG t_2
    obtain ⟨r_57, hr_59, ty_58⟩ := wg_10 hWF t_2
    have tq_60 := rd_eq hr_59
    refine py_calli hw (va_runV (As := [.ref (G.2 x 0)]) (rest := []) G0 (c_X10_faultOf l E G L f s.heap.size (G.2 x 1) (G.2 x 0) hG hWF t_2 t_1) (cwV 1 G0.2.2.2.2 g_X11_text_X10_faultOf_116 rfl rfl rfl (by decide +kernel) ⟨(Nat.le_of_ble_eq_true rfl), (Nat.le_of_ble_eq_true rfl)⟩) (py_preV hw (C := RX10) (T := TX10) (N := 2) rfl hr_59) rfl rfl hl.1 rfl (lv_room (Nat.le_of_ble_eq_true rfl)) dX11_text_12 ⟨(Nat.le_of_ble_eq_true rfl), (Nat.le_of_ble_eq_true rfl)⟩) (fun r_65 L_61 f_62 H_63 locs hp_64 hw => ?_)
    have ht_71 := fo_ty hWF t_6
    obtain ⟨b_67, en_66, hWF, hq_68, kp_69, vo_70⟩ := hp_64
    have hGI := hGI.vo hG Tx ht_71 hq_68 kp_69 vo_70 (by decide)
    have hKP := hKP.trans kp_69 (by decide) (by decide)
    have hr_54 := kp_at kp_69 hWF Tx (by decide) (by decide) (by decide) hr_54
    have tq_72 := hy_eq hr_54
    have hr_59 := kp_at kp_69 hWF t_2 (by decide) (by decide) (by decide) hr_59
    have tq_73 := rd_eq hr_59
    refine lv_iconst (v := (-1)) G0.1 G0.2.1 dX11_text_15 (by decide) ?_
    refine lv_icmp_ne (tgt := 24) G0.1 G0.2.1 dX11_text_16 (by decide) (fun c_74 => ?_) (fun c_74 => ?_)
    · skip
      have tc_74 := ti_ne c_74
      refine lv_iload_n G0.1 G0.2.1 dX11_text_24 rfl (lv_at hl 1 rfl) ?_
      refine lv_iconst (v := 1) G0.1 G0.2.1 dX11_text_25 (by decide) ?_
      refine lv_icmp_ne (tgt := 57) G0.1 G0.2.1 dX11_text_26 (by decide) (fun c_75 => ?_) (fun c_75 => ?_)
      · skip
        have tc_75 := ti_ne c_75
        refine lv_iconst (v := (-1)) G0.1 G0.2.1 dX11_text_57 (by decide) ?_
        refine W.widen (k := 3) (n := 195) (Nat.le_of_ble_eq_true rfl) (Nat.le_of_ble_eq_true rfl) ?_
        exact py_iret G0 hr rfl hlk hw ⟨G, GX.refl, hG, hWF, hGI, hKP⟩ dX11_text_58
      · skip
        have tc_75 := ti_eq c_75
        refine lv_aload_n G0.1 G0.2.1 dX11_text_29 rfl (lv_at hl 0 rfl) ?_
        refine py_get (C := RX11) (T := TX11) (N := 16) (k := 13) (v := .int v_48) G0 hw in_X11_text_X11 rfl hr_54 (by decide) (by decide +kernel) rfl dX11_text_30 ?_
        refine lv_iconst (v := 4) G0.1 G0.2.1 dX11_text_33 (by decide) ?_
        refine lv_icmp_ge (tgt := 57) G0.1 G0.2.1 dX11_text_34 (by decide) (fun c_76 => ?_) (fun c_76 => ?_)
        · skip
          have tc_76 := ti_le c_76
          refine lv_iconst (v := (-1)) G0.1 G0.2.1 dX11_text_57 (by decide) ?_
          refine W.widen (k := 3) (n := 195) (Nat.le_of_ble_eq_true rfl) (Nat.le_of_ble_eq_true rfl) ?_
          exact py_iret G0 hr rfl hlk hw ⟨G, GX.refl, hG, hWF, hGI, hKP⟩ dX11_text_58
        · skip
          have tc_76 := ti_nle c_76
          refine lv_aload_n G0.1 G0.2.1 dX11_text_37 rfl (lv_at hl 0 rfl) ?_
          refine py_get (C := RX11) (T := TX11) (N := 16) (k := 2) (v := .ref (G.2 x 2)) G0 hw in_X11_text_X11 rfl hr_54 (by decide) (by decide +kernel) rfl dX11_text_38 ?_
          refine lv_aload_n G0.1 G0.2.1 dX11_text_41 rfl (lv_at hl 0 rfl) ?_
          refine py_get (C := RX11) (T := TX11) (N := 16) (k := 0) (v := .ref (G.2 x 0)) G0 hw in_X11_text_X11 rfl hr_54 (by decide) (by decide +kernel) rfl dX11_text_42 ?_
          obtain ⟨r_77, hr_79, ty_78⟩ := wg_4 hWF t_3
          refine py_calli hw (va_runV (As := [.ref (G.2 x 0)]) (rest := []) G0 (c_X4_faultOf l E G L_61 f_62 H_63.size (G.2 x 2) (G.2 x 0) hG hWF t_3 t_1) (cwV 1 G0.2.2.2.2 g_X11_text_X4_faultOf_120 rfl rfl rfl (by decide +kernel) ⟨(Nat.le_of_ble_eq_true rfl), (Nat.le_of_ble_eq_true rfl)⟩) (py_preV hw (C := RX4) (T := TX4) (N := 1) rfl hr_79) rfl rfl hl.1 rfl (lv_room (Nat.le_of_ble_eq_true rfl)) dX11_text_45 ⟨(Nat.le_of_ble_eq_true rfl), (Nat.le_of_ble_eq_true rfl)⟩) (fun r_84 L_80 f_81 H_82 locs hp_83 hw => ?_)
          have ht_88 := fo_ty hWF t_6
          obtain ⟨b_85, hWF, hq_86, kp_87⟩ := hp_83
          have hGI := hGI.kp hG Tx ht_88 hq_86 kp_87 (by decide)
          have hKP := hKP.trans kp_87 (by decide) (by decide)
          have hr_54 := kp_at kp_87 hWF Tx (by decide) (by decide) (by decide) hr_54
          have tq_89 := hy_eq hr_54
          have hr_59 := kp_at kp_87 hWF t_2 (by decide) (by decide) (by decide) hr_59
          have tq_90 := rd_eq hr_59
          have hr_79 := kp_at kp_87 hWF t_3 (by decide) (by decide) (by decide) hr_79
          refine lv_iconst (v := (-1)) G0.1 G0.2.1 dX11_text_48 (by decide) ?_
          refine lv_icmp_ne (tgt := 57) G0.1 G0.2.1 dX11_text_49 (by decide) (fun c_91 => ?_) (fun c_91 => ?_)
          · skip
            have tc_91 := ti_ne c_91
            refine lv_iconst (v := (-1)) G0.1 G0.2.1 dX11_text_57 (by decide) ?_
            refine W.widen (k := 3) (n := 195) (Nat.le_of_ble_eq_true rfl) (Nat.le_of_ble_eq_true rfl) ?_
            exact py_iret G0 hr rfl hlk hw ⟨G, GX.refl, hG, hWF, hGI, hKP⟩ dX11_text_58
          · skip
            have tc_91 := ti_eq c_91
            refine lv_aload_n G0.1 G0.2.1 dX11_text_52 rfl (lv_at hl 0 rfl) ?_
            refine py_calli hw (va_runV (As := []) (rest := []) G0 (c_X11_tellLaw l E G L_80 f_81 H_82.size x hG hWF Tx (show hy_n f_81 x ≤ 3 by omega) hGI) (cwV 0 G0.2.2.2.2 g_X11_text_X11_tellLaw_125 rfl rfl rfl (by decide +kernel) ⟨(Nat.le_of_ble_eq_true rfl), (Nat.le_of_ble_eq_true rfl)⟩) (py_preV hw (C := RX11) (T := TX11) (N := 16) rfl hr_54) rfl rfl hl.1 rfl (lv_room (Nat.le_of_ble_eq_true rfl)) dX11_text_53 ⟨(Nat.le_of_ble_eq_true rfl), (Nat.le_of_ble_eq_true rfl)⟩) (fun r_96 L_92 f_93 H_94 locs hp_95 hw => ?_)
            obtain ⟨G1, gx, hG1, hWF1, hGI1, kp1⟩ := hp_95
            have br_96 := wf_free r_96
            exact py_iret G0 hr rfl hlk hw ⟨G1, gx, hG1, hWF1, hGI1, hKP.trans kp1 (by decide) (by decide)⟩ dX11_text_56
    · skip
      have tc_74 := ti_eq c_74
      refine lv_aload_n G0.1 G0.2.1 dX11_text_19 rfl (lv_at hl 0 rfl) ?_
      refine py_calli hw (va_runV (As := []) (rest := []) G0 (c_X11_tellValley l E G L_61 f_62 H_63.size x hG hWF Tx (show 2 ≤ rd_l f_62 (G.2 x 1) by omega) hGI) (cwV 0 G0.2.2.2.2 g_X11_text_X11_tellValley_121 rfl rfl rfl (by decide +kernel) ⟨(Nat.le_of_ble_eq_true rfl), (Nat.le_of_ble_eq_true rfl)⟩) (py_preV hw (C := RX11) (T := TX11) (N := 16) rfl hr_54) rfl rfl hl.1 rfl (lv_room (Nat.le_of_ble_eq_true rfl)) dX11_text_20 ⟨(Nat.le_of_ble_eq_true rfl), (Nat.le_of_ble_eq_true rfl)⟩) (fun r_101 L_97 f_98 H_99 locs hp_100 hw => ?_)
      have ht_104 := fo_ty hWF t_6
      obtain ⟨hWF, kp_103, hGI⟩ := hp_100
      have hKP := hKP.trans kp_103 (by decide) (by decide)
      have br_101 := wf_free r_101
      refine W.widen (k := 3) (n := 195) (Nat.le_of_ble_eq_true rfl) (Nat.le_of_ble_eq_true rfl) ?_
      exact py_iret G0 hr rfl hlk hw ⟨G, GX.refl, hG, hWF, hGI, hKP⟩ dX11_text_23

set_option maxHeartbeats 4000000 in
set_option maxRecDepth 100000 in
theorem c_X11_setV (l : Launch) (E : py_E) (G : wf_G) (L : List Nat) (f : py_F) (sz : Nat) (x : Nat) (a : Int32) (b : Int32) (hG : GT G) (hWF : WF E G L f) (Tx : G.1 x = 12) (hq0 : GI E G f x) : Met l yX11_set w_X11_set ({ frames := 0, cells := 0, slots := 0, locals := 0 }) (py_Pc E [.ref x, .int a, .int b] L f sz) (py_Qi E L f sz (fun r L1 f1 => (0 ≤ r.toInt ∧ r.toInt ≤ 1) ∧ (r.toInt ≠ 0 → ((a.toInt = 0 ∧ 0 ≤ b.toInt ∧ b.toInt ≤ 100) ∨ (a.toInt = 1 ∧ 0 ≤ b.toInt ∧ b.toInt ≤ 1) ∨ (a.toInt = 2 ∧ 0 ≤ b.toInt ∧ b.toInt ≤ 99))) ∧ (((a.toInt = 0 ∧ 0 ≤ b.toInt ∧ b.toInt ≤ 100) ∨ (a.toInt = 1 ∧ 0 ≤ b.toInt ∧ b.toInt ≤ 1) ∨ (a.toInt = 2 ∧ 0 ≤ b.toInt ∧ b.toInt ≤ 99)) → r.toInt ≠ 0) ∧ WF E G L1 f1 ∧ KP G [8, 1] false f f1 ∧ GI E G f1 x)) 0 0 (va_A (va_pl L f) sz) := by
  refine Met.ofW (cc := cX11_set) (maxL := 3) (ret := (some .boolean)) (by decide) rfl ?_
  intro p e s m args below meth c s₁ B hml hv
  obtain ⟨rfl, rfl, hw⟩ := py_start hv
  have G0 : CallFix p m c cX11_set 3 s _ w_X11_set RX11 := ⟨B.exec, B.bytes, hml, findClass_of_methodNamed B.named, atoms_spec (ws := w_X11_set) B.pre⟩
  have hr := B.returns
  have hlk := B.notSynchronized
  have kcm1 : (-1 : Int32).toInt = -1 := rfl
  have kc0 : (0 : Int32).toInt = 0 := rfl
  have kc1 : (1 : Int32).toInt = 1 := rfl
  have kc2 : (2 : Int32).toInt = 2 := rfl
  have kc99 : (99 : Int32).toInt = 99 := rfl
  have kc100 : (100 : Int32).toInt = 100 := rfl
  have hl := lv_entry ([.ref x, .int a, .int b]) (n := 3) (Nat.le_of_ble_eq_true rfl)
  rw [lg_entry_eq]
  generalize (lg_sl ([.ref x, .int a, .int b]) ++ List.replicate (3 - (lg_sl ([.ref x, .int a, .int b])).length) Slot.unset).toArray = ls at hl ⊢
  have hl : lv_has ls 3 [(0, .ref x), (1, .int a), (2, .int b)] := hl
  have hGI := hq0
  have hKP : KP G [8, 1] false f f := KP.refl
  obtain ⟨t_1, t_2, t_3, t_4, t_5, t_6, t_7, t_8, t_9, t_10, t_11, t_12, t_13, tx_14, tx_15, tx_16, tx_17⟩ := wt_11 hG Tx
  refine lv_iload_n G0.1 G0.2.1 dX11_set_0 rfl (lv_at hl 2 rfl) ?_
  refine lv_if_ge (tgt := 6) G0.1 G0.2.1 dX11_set_1 (by decide) (fun c_18 => ?_) (fun c_18 => ?_)
  · skip
    have tc_18 := ti_le c_18
    refine lv_iload_n G0.1 G0.2.1 dX11_set_6 rfl (lv_at hl 1 rfl) ?_
    refine lv_if_ne (tgt := 26) G0.1 G0.2.1 dX11_set_7 (by decide) (fun c_19 => ?_) (fun c_19 => ?_)
    · skip
      have tc_19 := ti_ne c_19
      refine lv_iload_n G0.1 G0.2.1 dX11_set_26 rfl (lv_at hl 1 rfl) ?_
      refine lv_iconst (v := 1) G0.1 G0.2.1 dX11_set_27 (by decide) ?_
      refine lv_icmp_ne (tgt := 55) G0.1 G0.2.1 dX11_set_28 (by decide) (fun c_20 => ?_) (fun c_20 => ?_)
      · skip
        have tc_20 := ti_ne c_20
        refine lv_iload_n G0.1 G0.2.1 dX11_set_55 rfl (lv_at hl 1 rfl) ?_
        refine lv_iconst (v := 2) G0.1 G0.2.1 dX11_set_56 (by decide) ?_
        refine lv_icmp_ne (tgt := 76) G0.1 G0.2.1 dX11_set_57 (by decide) (fun c_21 => ?_) (fun c_21 => ?_)
        · skip
          have tc_21 := ti_ne c_21
          refine lv_iconst (v := 0) G0.1 G0.2.1 dX11_set_76 (by decide) ?_
          exact py_iret G0 hr rfl hlk hw ⟨⟨by omega, by omega⟩, (by first | omega | (intro q; omega)), (by first | omega | (intro q; omega)), hWF, hKP, hGI⟩ dX11_set_77
        · skip
          have tc_21 := ti_eq c_21
          refine lv_iload_n G0.1 G0.2.1 dX11_set_60 rfl (lv_at hl 2 rfl) ?_
          refine lv_bipush (v := 99) G0.1 G0.2.1 dX11_set_61 (by decide) ?_
          refine lv_icmp_gt (tgt := 76) G0.1 G0.2.1 dX11_set_63 (by decide) (fun c_22 => ?_) (fun c_22 => ?_)
          · skip
            have tc_22 := ti_lt c_22
            refine lv_iconst (v := 0) G0.1 G0.2.1 dX11_set_76 (by decide) ?_
            exact py_iret G0 hr rfl hlk hw ⟨⟨by omega, by omega⟩, (by first | omega | (intro q; omega)), (by first | omega | (intro q; omega)), hWF, hKP, hGI⟩ dX11_set_77
          · skip
            have tc_22 := ti_nlt c_22
            refine lv_aload_n G0.1 G0.2.1 dX11_set_66 rfl (lv_at hl 0 rfl) ?_
            obtain ⟨v_23, v_24, v_25, hr_29, b_26, b_27, b_28⟩ := wg_11 hWF Tx
            have tq_30 := hy_eq hr_29
            refine py_get (C := RX11) (T := TX11) (N := 16) (k := 9) (v := .ref (G.2 x 9)) G0 hw in_X11_set_X11 rfl hr_29 (by decide) (by decide +kernel) rfl dX11_set_67 ?_
            refine lv_iload_n G0.1 G0.2.1 dX11_set_70 rfl (lv_at hl 2 rfl) ?_
            obtain ⟨t_31, t_32, t_33⟩ := wt_0 hG t_10
            obtain ⟨v_34, v_35, hr_38, b_36, b_37⟩ := wg_0 hWF t_10
            refine py_put (C := RX0) (T := TX0) (N := 5) (k := 4) (v := .int b) (fs' := [.ref (G.2 (G.2 x 9) 0), .ref (G.2 (G.2 x 9) 1), .ref (G.2 (G.2 x 9) 2), .int v_34, .int b]) (ty0 := tyX0) G0 hw tyX0_ok nmX0 in_X11_set_X0 rfl hr_38 (by decide) (by decide +kernel) rfl rfl rfl rfl (Nat.le_of_ble_eq_true rfl) rfl dX11_set_71 (fun f_39 H_40 locs h_41 x_42 hw => ?_)
            have hGI := hGI.kp hG Tx (fo_ty hWF t_6) (rp_upd hG hWF x_42 hr_38.2 h_41.2 (rp_code hG t_10 (by decide)) rfl : RP E G f f_39) (KP.refl.upd hWF x_42 t_10 (Or.inl (by decide)) : KP G [1] false f f_39) (by decide)
            have hKP := hKP.upd hWF x_42 t_10 (Or.inl (by decide))
            have hWF := wf_upd hWF h_41 x_42 (by rw [t_10]; exact ⟨v_34, b, rfl, ⟨by omega, by omega⟩, ⟨by omega, by omega⟩⟩)
            have hr_29 := hr_29.ext x_42 (py_ne_kind hr_29 hr_38 (by decide))
            have tq_43 := hy_eq hr_29
            refine lv_iconst (v := 1) G0.1 G0.2.1 dX11_set_74 (by decide) ?_
            exact py_iret G0 hr rfl hlk hw ⟨⟨by omega, by omega⟩, (by first | omega | (intro q; omega)), (by first | omega | (intro q; omega)), hWF, hKP, hGI⟩ dX11_set_75
      · skip
        have tc_20 := ti_eq c_20
        refine lv_iload_n G0.1 G0.2.1 dX11_set_31 rfl (lv_at hl 2 rfl) ?_
        refine lv_iconst (v := 1) G0.1 G0.2.1 dX11_set_32 (by decide) ?_
        refine lv_icmp_gt (tgt := 55) G0.1 G0.2.1 dX11_set_33 (by decide) (fun c_44 => ?_) (fun c_44 => ?_)
        · skip
          have tc_44 := ti_lt c_44
          refine lv_iload_n G0.1 G0.2.1 dX11_set_55 rfl (lv_at hl 1 rfl) ?_
          refine lv_iconst (v := 2) G0.1 G0.2.1 dX11_set_56 (by decide) ?_
          refine lv_icmp_ne (tgt := 76) G0.1 G0.2.1 dX11_set_57 (by decide) (fun c_45 => ?_) (fun c_45 => ?_)
          · skip
            have tc_45 := ti_ne c_45
            refine lv_iconst (v := 0) G0.1 G0.2.1 dX11_set_76 (by decide) ?_
            exact py_iret G0 hr rfl hlk hw ⟨⟨by omega, by omega⟩, (by first | omega | (intro q; omega)), (by first | omega | (intro q; omega)), hWF, hKP, hGI⟩ dX11_set_77
          · skip
            have tc_45 := ti_eq c_45
            refine lv_iload_n G0.1 G0.2.1 dX11_set_60 rfl (lv_at hl 2 rfl) ?_
            refine lv_bipush (v := 99) G0.1 G0.2.1 dX11_set_61 (by decide) ?_
            refine lv_icmp_gt (tgt := 76) G0.1 G0.2.1 dX11_set_63 (by decide) (fun c_46 => ?_) (fun c_46 => ?_)
            · skip
              have tc_46 := ti_lt c_46
              refine lv_iconst (v := 0) G0.1 G0.2.1 dX11_set_76 (by decide) ?_
              exact py_iret G0 hr rfl hlk hw ⟨⟨by omega, by omega⟩, (by first | omega | (intro q; omega)), (by first | omega | (intro q; omega)), hWF, hKP, hGI⟩ dX11_set_77
            · skip
              have tc_46 := ti_nlt c_46
              refine lv_aload_n G0.1 G0.2.1 dX11_set_66 rfl (lv_at hl 0 rfl) ?_
              obtain ⟨v_47, v_48, v_49, hr_53, b_50, b_51, b_52⟩ := wg_11 hWF Tx
              have tq_54 := hy_eq hr_53
              refine py_get (C := RX11) (T := TX11) (N := 16) (k := 9) (v := .ref (G.2 x 9)) G0 hw in_X11_set_X11 rfl hr_53 (by decide) (by decide +kernel) rfl dX11_set_67 ?_
              refine lv_iload_n G0.1 G0.2.1 dX11_set_70 rfl (lv_at hl 2 rfl) ?_
              obtain ⟨t_55, t_56, t_57⟩ := wt_0 hG t_10
              obtain ⟨v_58, v_59, hr_62, b_60, b_61⟩ := wg_0 hWF t_10
              refine py_put (C := RX0) (T := TX0) (N := 5) (k := 4) (v := .int b) (fs' := [.ref (G.2 (G.2 x 9) 0), .ref (G.2 (G.2 x 9) 1), .ref (G.2 (G.2 x 9) 2), .int v_58, .int b]) (ty0 := tyX0) G0 hw tyX0_ok nmX0 in_X11_set_X0 rfl hr_62 (by decide) (by decide +kernel) rfl rfl rfl rfl (Nat.le_of_ble_eq_true rfl) rfl dX11_set_71 (fun f_63 H_64 locs h_65 x_66 hw => ?_)
              have hGI := hGI.kp hG Tx (fo_ty hWF t_6) (rp_upd hG hWF x_66 hr_62.2 h_65.2 (rp_code hG t_10 (by decide)) rfl : RP E G f f_63) (KP.refl.upd hWF x_66 t_10 (Or.inl (by decide)) : KP G [1] false f f_63) (by decide)
              have hKP := hKP.upd hWF x_66 t_10 (Or.inl (by decide))
              have hWF := wf_upd hWF h_65 x_66 (by rw [t_10]; exact ⟨v_58, b, rfl, ⟨by omega, by omega⟩, ⟨by omega, by omega⟩⟩)
              have hr_53 := hr_53.ext x_66 (py_ne_kind hr_53 hr_62 (by decide))
              have tq_67 := hy_eq hr_53
              refine lv_iconst (v := 1) G0.1 G0.2.1 dX11_set_74 (by decide) ?_
              exact py_iret G0 hr rfl hlk hw ⟨⟨by omega, by omega⟩, (by first | omega | (intro q; omega)), (by first | omega | (intro q; omega)), hWF, hKP, hGI⟩ dX11_set_75
        · skip
          have tc_44 := ti_nlt c_44
          refine lv_aload_n G0.1 G0.2.1 dX11_set_36 rfl (lv_at hl 0 rfl) ?_
          obtain ⟨v_68, v_69, v_70, hr_74, b_71, b_72, b_73⟩ := wg_11 hWF Tx
          have tq_75 := hy_eq hr_74
          refine py_get (C := RX11) (T := TX11) (N := 16) (k := 10) (v := .ref (G.2 x 10)) G0 hw in_X11_set_X11 rfl hr_74 (by decide) (by decide +kernel) rfl dX11_set_37 ?_
          refine lv_iload_n G0.1 G0.2.1 dX11_set_40 rfl (lv_at hl 2 rfl) ?_
          refine lv_iconst (v := 1) G0.1 G0.2.1 dX11_set_41 (by decide) ?_
          have jn_50 : ∀ (v_76 : Int32) (H_j50 : Heap) (locs : List Loc) (ls : Array Slot), (0 ≤ v_76.toInt ∧ v_76.toInt ≤ 1) → py_W E (va_A (va_pl L f) s.heap.size) s L f H_j50 locs → lv_has ls 3 [(0, .ref x), (1, .int a), (2, .int b)] → W p l e (headSpec w_X11_set ({ frames := 0, cells := 0, slots := 0, locals := 0 })).room s m ([.ref x, .int a, .int b] : List Value).toArray below meth c H_j50 locs 0 0 (MQ below (py_Qi E L f s.heap.size (fun r L1 f1 => (0 ≤ r.toInt ∧ r.toInt ≤ 1) ∧ (r.toInt ≠ 0 → ((a.toInt = 0 ∧ 0 ≤ b.toInt ∧ b.toInt ≤ 100) ∨ (a.toInt = 1 ∧ 0 ≤ b.toInt ∧ b.toInt ≤ 1) ∨ (a.toInt = 2 ∧ 0 ≤ b.toInt ∧ b.toInt ≤ 99))) ∧ (((a.toInt = 0 ∧ 0 ≤ b.toInt ∧ b.toInt ≤ 100) ∨ (a.toInt = 1 ∧ 0 ≤ b.toInt ∧ b.toInt ≤ 1) ∨ (a.toInt = 2 ∧ 0 ≤ b.toInt ∧ b.toInt ≤ 99)) → r.toInt ≠ 0) ∧ WF E G L1 f1 ∧ KP G [8, 1] false f f1 ∧ GI E G f1 x)) ([.ref x, .int a, .int b] : List Value).toArray s 0 0 (va_A (va_pl L f) s.heap.size)) (F0 m 50 ls [.int v_76, .ref (G.2 x 10)]) := by
            intro v_76 H_j50 locs ls bv_76 hw hl
            obtain ⟨t_77, t_78, t_79⟩ := wt_7 hG t_11
            obtain ⟨v_80, v_81, hr_83, b_82⟩ := wg_7 hWF t_11
            have bv_80 := wf_free v_80
            refine py_put (C := RX7) (T := TX7) (N := 5) (k := 4) (v := .int v_76) (fs' := [.ref (G.2 (G.2 x 10) 0), .ref (G.2 (G.2 x 10) 1), .ref (G.2 (G.2 x 10) 2), .int v_80, .int v_76]) (ty0 := tyX7) G0 hw tyX7_ok nmX7 in_X11_set_X7 rfl hr_83 (by decide) (by decide +kernel) rfl rfl (ti_bool (by omega) (by omega)) (ti_fit (by omega) (by omega)) (Nat.le_of_ble_eq_true rfl) rfl dX11_set_50 (fun f_84 H_85 locs h_86 x_87 hw => ?_)
            have hGI := hGI.kp hG Tx (fo_ty hWF t_6) (rp_upd hG hWF x_87 hr_83.2 h_86.2 (rp_code hG t_11 (by decide)) rfl : RP E G f f_84) (KP.refl.upd hWF x_87 t_11 (Or.inl (by decide)) : KP G [8] false f f_84) (by decide)
            have hKP := hKP.upd hWF x_87 t_11 (Or.inl (by decide))
            have hWF := wf_upd hWF h_86 x_87 (by rw [t_11]; exact ⟨v_80, v_76, rfl, ⟨by omega, by omega⟩⟩)
            have hr_74 := hr_74.ext x_87 (py_ne_kind hr_74 hr_83 (by decide))
            have tq_88 := hy_eq hr_74
            refine lv_iconst (v := 1) G0.1 G0.2.1 dX11_set_53 (by decide) ?_
            exact py_iret G0 hr rfl hlk hw ⟨⟨by omega, by omega⟩, (by first | omega | (intro q; omega)), (by first | omega | (intro q; omega)), hWF, hKP, hGI⟩ dX11_set_54
          refine lv_icmp_ne (tgt := 49) G0.1 G0.2.1 dX11_set_42 (by decide) (fun c_89 => ?_) (fun c_89 => ?_)
          · skip
            have tc_89 := ti_ne c_89
            refine lv_iconst (v := 0) G0.1 G0.2.1 dX11_set_49 (by decide) ?_
            exact jn_50 0 _ _ ls ⟨by omega, by omega⟩ hw (lv_sub hl [0, 1, 2] rfl)
          · skip
            have tc_89 := ti_eq c_89
            refine lv_iconst (v := 1) G0.1 G0.2.1 dX11_set_45 (by decide) ?_
            refine lv_goto (tgt := 50) G0.1 G0.2.1 dX11_set_46 (by decide) ?_
            exact jn_50 1 _ _ ls ⟨by omega, by omega⟩ hw (lv_sub hl [0, 1, 2] rfl)
    · skip
      have tc_19 := ti_eq c_19
      refine lv_iload_n G0.1 G0.2.1 dX11_set_10 rfl (lv_at hl 2 rfl) ?_
      refine lv_bipush (v := 100) G0.1 G0.2.1 dX11_set_11 (by decide) ?_
      refine lv_icmp_gt (tgt := 26) G0.1 G0.2.1 dX11_set_13 (by decide) (fun c_90 => ?_) (fun c_90 => ?_)
      · skip
        have tc_90 := ti_lt c_90
        refine lv_iload_n G0.1 G0.2.1 dX11_set_26 rfl (lv_at hl 1 rfl) ?_
        refine lv_iconst (v := 1) G0.1 G0.2.1 dX11_set_27 (by decide) ?_
        refine lv_icmp_ne (tgt := 55) G0.1 G0.2.1 dX11_set_28 (by decide) (fun c_91 => ?_) (fun c_91 => ?_)
        · skip
          have tc_91 := ti_ne c_91
          refine lv_iload_n G0.1 G0.2.1 dX11_set_55 rfl (lv_at hl 1 rfl) ?_
          refine lv_iconst (v := 2) G0.1 G0.2.1 dX11_set_56 (by decide) ?_
          refine lv_icmp_ne (tgt := 76) G0.1 G0.2.1 dX11_set_57 (by decide) (fun c_92 => ?_) (fun c_92 => ?_)
          · skip
            have tc_92 := ti_ne c_92
            refine lv_iconst (v := 0) G0.1 G0.2.1 dX11_set_76 (by decide) ?_
            exact py_iret G0 hr rfl hlk hw ⟨⟨by omega, by omega⟩, (by first | omega | (intro q; omega)), (by first | omega | (intro q; omega)), hWF, hKP, hGI⟩ dX11_set_77
          · skip
            have tc_92 := ti_eq c_92
            refine lv_iload_n G0.1 G0.2.1 dX11_set_60 rfl (lv_at hl 2 rfl) ?_
            refine lv_bipush (v := 99) G0.1 G0.2.1 dX11_set_61 (by decide) ?_
            refine lv_icmp_gt (tgt := 76) G0.1 G0.2.1 dX11_set_63 (by decide) (fun c_93 => ?_) (fun c_93 => ?_)
            · skip
              have tc_93 := ti_lt c_93
              refine lv_iconst (v := 0) G0.1 G0.2.1 dX11_set_76 (by decide) ?_
              exact py_iret G0 hr rfl hlk hw ⟨⟨by omega, by omega⟩, (by first | omega | (intro q; omega)), (by first | omega | (intro q; omega)), hWF, hKP, hGI⟩ dX11_set_77
            · skip
              have tc_93 := ti_nlt c_93
              refine lv_aload_n G0.1 G0.2.1 dX11_set_66 rfl (lv_at hl 0 rfl) ?_
              obtain ⟨v_94, v_95, v_96, hr_100, b_97, b_98, b_99⟩ := wg_11 hWF Tx
              have tq_101 := hy_eq hr_100
              refine py_get (C := RX11) (T := TX11) (N := 16) (k := 9) (v := .ref (G.2 x 9)) G0 hw in_X11_set_X11 rfl hr_100 (by decide) (by decide +kernel) rfl dX11_set_67 ?_
              refine lv_iload_n G0.1 G0.2.1 dX11_set_70 rfl (lv_at hl 2 rfl) ?_
              obtain ⟨t_102, t_103, t_104⟩ := wt_0 hG t_10
              obtain ⟨v_105, v_106, hr_109, b_107, b_108⟩ := wg_0 hWF t_10
              refine py_put (C := RX0) (T := TX0) (N := 5) (k := 4) (v := .int b) (fs' := [.ref (G.2 (G.2 x 9) 0), .ref (G.2 (G.2 x 9) 1), .ref (G.2 (G.2 x 9) 2), .int v_105, .int b]) (ty0 := tyX0) G0 hw tyX0_ok nmX0 in_X11_set_X0 rfl hr_109 (by decide) (by decide +kernel) rfl rfl rfl rfl (Nat.le_of_ble_eq_true rfl) rfl dX11_set_71 (fun f_110 H_111 locs h_112 x_113 hw => ?_)
              have hGI := hGI.kp hG Tx (fo_ty hWF t_6) (rp_upd hG hWF x_113 hr_109.2 h_112.2 (rp_code hG t_10 (by decide)) rfl : RP E G f f_110) (KP.refl.upd hWF x_113 t_10 (Or.inl (by decide)) : KP G [1] false f f_110) (by decide)
              have hKP := hKP.upd hWF x_113 t_10 (Or.inl (by decide))
              have hWF := wf_upd hWF h_112 x_113 (by rw [t_10]; exact ⟨v_105, b, rfl, ⟨by omega, by omega⟩, ⟨by omega, by omega⟩⟩)
              have hr_100 := hr_100.ext x_113 (py_ne_kind hr_100 hr_109 (by decide))
              have tq_114 := hy_eq hr_100
              refine lv_iconst (v := 1) G0.1 G0.2.1 dX11_set_74 (by decide) ?_
              exact py_iret G0 hr rfl hlk hw ⟨⟨by omega, by omega⟩, (by first | omega | (intro q; omega)), (by first | omega | (intro q; omega)), hWF, hKP, hGI⟩ dX11_set_75
        · skip
          have tc_91 := ti_eq c_91
          refine lv_iload_n G0.1 G0.2.1 dX11_set_31 rfl (lv_at hl 2 rfl) ?_
          refine lv_iconst (v := 1) G0.1 G0.2.1 dX11_set_32 (by decide) ?_
          refine lv_icmp_gt (tgt := 55) G0.1 G0.2.1 dX11_set_33 (by decide) (fun c_115 => ?_) (fun c_115 => ?_)
          · skip
            have tc_115 := ti_lt c_115
            refine lv_iload_n G0.1 G0.2.1 dX11_set_55 rfl (lv_at hl 1 rfl) ?_
            refine lv_iconst (v := 2) G0.1 G0.2.1 dX11_set_56 (by decide) ?_
            refine lv_icmp_ne (tgt := 76) G0.1 G0.2.1 dX11_set_57 (by decide) (fun c_116 => ?_) (fun c_116 => ?_)
            · skip
              have tc_116 := ti_ne c_116
              refine lv_iconst (v := 0) G0.1 G0.2.1 dX11_set_76 (by decide) ?_
              exact py_iret G0 hr rfl hlk hw ⟨⟨by omega, by omega⟩, (by first | omega | (intro q; omega)), (by first | omega | (intro q; omega)), hWF, hKP, hGI⟩ dX11_set_77
            · skip
              have tc_116 := ti_eq c_116
              refine lv_iload_n G0.1 G0.2.1 dX11_set_60 rfl (lv_at hl 2 rfl) ?_
              refine lv_bipush (v := 99) G0.1 G0.2.1 dX11_set_61 (by decide) ?_
              refine lv_icmp_gt (tgt := 76) G0.1 G0.2.1 dX11_set_63 (by decide) (fun c_117 => ?_) (fun c_117 => ?_)
              · skip
                have tc_117 := ti_lt c_117
                refine lv_iconst (v := 0) G0.1 G0.2.1 dX11_set_76 (by decide) ?_
                exact py_iret G0 hr rfl hlk hw ⟨⟨by omega, by omega⟩, (by first | omega | (intro q; omega)), (by first | omega | (intro q; omega)), hWF, hKP, hGI⟩ dX11_set_77
              · skip
                have tc_117 := ti_nlt c_117
                refine lv_aload_n G0.1 G0.2.1 dX11_set_66 rfl (lv_at hl 0 rfl) ?_
                obtain ⟨v_118, v_119, v_120, hr_124, b_121, b_122, b_123⟩ := wg_11 hWF Tx
                have tq_125 := hy_eq hr_124
                refine py_get (C := RX11) (T := TX11) (N := 16) (k := 9) (v := .ref (G.2 x 9)) G0 hw in_X11_set_X11 rfl hr_124 (by decide) (by decide +kernel) rfl dX11_set_67 ?_
                refine lv_iload_n G0.1 G0.2.1 dX11_set_70 rfl (lv_at hl 2 rfl) ?_
                obtain ⟨t_126, t_127, t_128⟩ := wt_0 hG t_10
                obtain ⟨v_129, v_130, hr_133, b_131, b_132⟩ := wg_0 hWF t_10
                refine py_put (C := RX0) (T := TX0) (N := 5) (k := 4) (v := .int b) (fs' := [.ref (G.2 (G.2 x 9) 0), .ref (G.2 (G.2 x 9) 1), .ref (G.2 (G.2 x 9) 2), .int v_129, .int b]) (ty0 := tyX0) G0 hw tyX0_ok nmX0 in_X11_set_X0 rfl hr_133 (by decide) (by decide +kernel) rfl rfl rfl rfl (Nat.le_of_ble_eq_true rfl) rfl dX11_set_71 (fun f_134 H_135 locs h_136 x_137 hw => ?_)
                have hGI := hGI.kp hG Tx (fo_ty hWF t_6) (rp_upd hG hWF x_137 hr_133.2 h_136.2 (rp_code hG t_10 (by decide)) rfl : RP E G f f_134) (KP.refl.upd hWF x_137 t_10 (Or.inl (by decide)) : KP G [1] false f f_134) (by decide)
                have hKP := hKP.upd hWF x_137 t_10 (Or.inl (by decide))
                have hWF := wf_upd hWF h_136 x_137 (by rw [t_10]; exact ⟨v_129, b, rfl, ⟨by omega, by omega⟩, ⟨by omega, by omega⟩⟩)
                have hr_124 := hr_124.ext x_137 (py_ne_kind hr_124 hr_133 (by decide))
                have tq_138 := hy_eq hr_124
                refine lv_iconst (v := 1) G0.1 G0.2.1 dX11_set_74 (by decide) ?_
                exact py_iret G0 hr rfl hlk hw ⟨⟨by omega, by omega⟩, (by first | omega | (intro q; omega)), (by first | omega | (intro q; omega)), hWF, hKP, hGI⟩ dX11_set_75
          · skip
            have tc_115 := ti_nlt c_115
            refine lv_aload_n G0.1 G0.2.1 dX11_set_36 rfl (lv_at hl 0 rfl) ?_
            obtain ⟨v_139, v_140, v_141, hr_145, b_142, b_143, b_144⟩ := wg_11 hWF Tx
            have tq_146 := hy_eq hr_145
            refine py_get (C := RX11) (T := TX11) (N := 16) (k := 10) (v := .ref (G.2 x 10)) G0 hw in_X11_set_X11 rfl hr_145 (by decide) (by decide +kernel) rfl dX11_set_37 ?_
            refine lv_iload_n G0.1 G0.2.1 dX11_set_40 rfl (lv_at hl 2 rfl) ?_
            refine lv_iconst (v := 1) G0.1 G0.2.1 dX11_set_41 (by decide) ?_
            have jn_50 : ∀ (v_147 : Int32) (H_j50 : Heap) (locs : List Loc) (ls : Array Slot), (0 ≤ v_147.toInt ∧ v_147.toInt ≤ 1) → py_W E (va_A (va_pl L f) s.heap.size) s L f H_j50 locs → lv_has ls 3 [(0, .ref x), (1, .int a), (2, .int b)] → W p l e (headSpec w_X11_set ({ frames := 0, cells := 0, slots := 0, locals := 0 })).room s m ([.ref x, .int a, .int b] : List Value).toArray below meth c H_j50 locs 0 0 (MQ below (py_Qi E L f s.heap.size (fun r L1 f1 => (0 ≤ r.toInt ∧ r.toInt ≤ 1) ∧ (r.toInt ≠ 0 → ((a.toInt = 0 ∧ 0 ≤ b.toInt ∧ b.toInt ≤ 100) ∨ (a.toInt = 1 ∧ 0 ≤ b.toInt ∧ b.toInt ≤ 1) ∨ (a.toInt = 2 ∧ 0 ≤ b.toInt ∧ b.toInt ≤ 99))) ∧ (((a.toInt = 0 ∧ 0 ≤ b.toInt ∧ b.toInt ≤ 100) ∨ (a.toInt = 1 ∧ 0 ≤ b.toInt ∧ b.toInt ≤ 1) ∨ (a.toInt = 2 ∧ 0 ≤ b.toInt ∧ b.toInt ≤ 99)) → r.toInt ≠ 0) ∧ WF E G L1 f1 ∧ KP G [8, 1] false f f1 ∧ GI E G f1 x)) ([.ref x, .int a, .int b] : List Value).toArray s 0 0 (va_A (va_pl L f) s.heap.size)) (F0 m 50 ls [.int v_147, .ref (G.2 x 10)]) := by
              intro v_147 H_j50 locs ls bv_147 hw hl
              obtain ⟨t_148, t_149, t_150⟩ := wt_7 hG t_11
              obtain ⟨v_151, v_152, hr_154, b_153⟩ := wg_7 hWF t_11
              have bv_151 := wf_free v_151
              refine py_put (C := RX7) (T := TX7) (N := 5) (k := 4) (v := .int v_147) (fs' := [.ref (G.2 (G.2 x 10) 0), .ref (G.2 (G.2 x 10) 1), .ref (G.2 (G.2 x 10) 2), .int v_151, .int v_147]) (ty0 := tyX7) G0 hw tyX7_ok nmX7 in_X11_set_X7 rfl hr_154 (by decide) (by decide +kernel) rfl rfl (ti_bool (by omega) (by omega)) (ti_fit (by omega) (by omega)) (Nat.le_of_ble_eq_true rfl) rfl dX11_set_50 (fun f_155 H_156 locs h_157 x_158 hw => ?_)
              have hGI := hGI.kp hG Tx (fo_ty hWF t_6) (rp_upd hG hWF x_158 hr_154.2 h_157.2 (rp_code hG t_11 (by decide)) rfl : RP E G f f_155) (KP.refl.upd hWF x_158 t_11 (Or.inl (by decide)) : KP G [8] false f f_155) (by decide)
              have hKP := hKP.upd hWF x_158 t_11 (Or.inl (by decide))
              have hWF := wf_upd hWF h_157 x_158 (by rw [t_11]; exact ⟨v_151, v_147, rfl, ⟨by omega, by omega⟩⟩)
              have hr_145 := hr_145.ext x_158 (py_ne_kind hr_145 hr_154 (by decide))
              have tq_159 := hy_eq hr_145
              refine lv_iconst (v := 1) G0.1 G0.2.1 dX11_set_53 (by decide) ?_
              exact py_iret G0 hr rfl hlk hw ⟨⟨by omega, by omega⟩, (by first | omega | (intro q; omega)), (by first | omega | (intro q; omega)), hWF, hKP, hGI⟩ dX11_set_54
            refine lv_icmp_ne (tgt := 49) G0.1 G0.2.1 dX11_set_42 (by decide) (fun c_160 => ?_) (fun c_160 => ?_)
            · skip
              have tc_160 := ti_ne c_160
              refine lv_iconst (v := 0) G0.1 G0.2.1 dX11_set_49 (by decide) ?_
              exact jn_50 0 _ _ ls ⟨by omega, by omega⟩ hw (lv_sub hl [0, 1, 2] rfl)
            · skip
              have tc_160 := ti_eq c_160
              refine lv_iconst (v := 1) G0.1 G0.2.1 dX11_set_45 (by decide) ?_
              refine lv_goto (tgt := 50) G0.1 G0.2.1 dX11_set_46 (by decide) ?_
              exact jn_50 1 _ _ ls ⟨by omega, by omega⟩ hw (lv_sub hl [0, 1, 2] rfl)
      · skip
        have tc_90 := ti_nlt c_90
        refine lv_aload_n G0.1 G0.2.1 dX11_set_16 rfl (lv_at hl 0 rfl) ?_
        obtain ⟨v_161, v_162, v_163, hr_167, b_164, b_165, b_166⟩ := wg_11 hWF Tx
        have tq_168 := hy_eq hr_167
        refine py_get (C := RX11) (T := TX11) (N := 16) (k := 10) (v := .ref (G.2 x 10)) G0 hw in_X11_set_X11 rfl hr_167 (by decide) (by decide +kernel) rfl dX11_set_17 ?_
        refine lv_iload_n G0.1 G0.2.1 dX11_set_20 rfl (lv_at hl 2 rfl) ?_
        obtain ⟨t_169, t_170, t_171⟩ := wt_7 hG t_11
        obtain ⟨v_172, v_173, hr_175, b_174⟩ := wg_7 hWF t_11
        have bv_172 := wf_free v_172
        refine py_put (C := RX7) (T := TX7) (N := 5) (k := 3) (v := .int b) (fs' := [.ref (G.2 (G.2 x 10) 0), .ref (G.2 (G.2 x 10) 1), .ref (G.2 (G.2 x 10) 2), .int b, .int v_173]) (ty0 := tyX7) G0 hw tyX7_ok nmX7 in_X11_set_X7 rfl hr_175 (by decide) (by decide +kernel) rfl rfl rfl rfl (Nat.le_of_ble_eq_true rfl) rfl dX11_set_21 (fun f_176 H_177 locs h_178 x_179 hw => ?_)
        have hGI := hGI.kp hG Tx (fo_ty hWF t_6) (rp_upd hG hWF x_179 hr_175.2 h_178.2 (rp_code hG t_11 (by decide)) rfl : RP E G f f_176) (KP.refl.upd hWF x_179 t_11 (Or.inl (by decide)) : KP G [8] false f f_176) (by decide)
        have hKP := hKP.upd hWF x_179 t_11 (Or.inl (by decide))
        have hWF := wf_upd hWF h_178 x_179 (by rw [t_11]; exact ⟨b, v_173, rfl, ⟨by omega, by omega⟩⟩)
        have hr_167 := hr_167.ext x_179 (py_ne_kind hr_167 hr_175 (by decide))
        have tq_180 := hy_eq hr_167
        refine lv_iconst (v := 1) G0.1 G0.2.1 dX11_set_24 (by decide) ?_
        exact py_iret G0 hr rfl hlk hw ⟨⟨by omega, by omega⟩, (by first | omega | (intro q; omega)), (by first | omega | (intro q; omega)), hWF, hKP, hGI⟩ dX11_set_25
  · skip
    have tc_18 := ti_nle c_18
    refine lv_iconst (v := 0) G0.1 G0.2.1 dX11_set_4 (by decide) ?_
    exact py_iret G0 hr rfl hlk hw ⟨⟨by omega, by omega⟩, (by first | omega | (intro q; omega)), (by first | omega | (intro q; omega)), hWF, hKP, hGI⟩ dX11_set_5

set_option maxHeartbeats 4000000 in
set_option maxRecDepth 100000 in
theorem c_X12_setV (l : Launch) (E : py_E) (G : wf_G) (L : List Nat) (f : py_F) (sz : Nat) (u : Nat) (a : Int32) (b : Int32) (hG : GT G) (hWF : WF E G L f) (Tu : G.1 u = 13) : Met l yX12_set w_X12_set ({ frames := 1, cells := 0, slots := 0, locals := 22 }) (py_Pc E [.ref u, .int a, .int b] L f sz) (py_Qi E L f sz (fun r L1 f1 => (0 ≤ r.toInt ∧ r.toInt ≤ 1) ∧ (r.toInt ≠ 0 → ((a.toInt = 0 ∧ 0 ≤ b.toInt ∧ b.toInt ≤ 100) ∨ (a.toInt = 1 ∧ 0 ≤ b.toInt ∧ b.toInt ≤ 1) ∨ (a.toInt = 2 ∧ 0 ≤ b.toInt ∧ b.toInt ≤ 99))) ∧ (((a.toInt = 0 ∧ 0 ≤ b.toInt ∧ b.toInt ≤ 100) ∨ (a.toInt = 1 ∧ 0 ≤ b.toInt ∧ b.toInt ≤ 1) ∨ (a.toInt = 2 ∧ 0 ≤ b.toInt ∧ b.toInt ≤ 99)) → r.toInt ≠ 0) ∧ WF E G L1 f1 ∧ KP G [13] false f f1 ∧ FK [32, 33, 34] f f1 u)) 0 0 (va_A (va_pl L f) sz) := by
  refine Met.ofW (cc := cX12_set) (maxL := 3) (ret := (some .boolean)) (by decide) rfl ?_
  intro p e s m args below meth c s₁ B hml hv
  obtain ⟨rfl, rfl, hw⟩ := py_start hv
  have G0 : CallFix p m c cX12_set 3 s _ w_X12_set RX12 := ⟨B.exec, B.bytes, hml, findClass_of_methodNamed B.named, atoms_spec (ws := w_X12_set) B.pre⟩
  have hr := B.returns
  have hlk := B.notSynchronized
  have kcm1 : (-1 : Int32).toInt = -1 := rfl
  have kc0 : (0 : Int32).toInt = 0 := rfl
  have kc1 : (1 : Int32).toInt = 1 := rfl
  have kc2 : (2 : Int32).toInt = 2 := rfl
  have kc99 : (99 : Int32).toInt = 99 := rfl
  have kc100 : (100 : Int32).toInt = 100 := rfl
  have hl := lv_entry ([.ref u, .int a, .int b]) (n := 3) (Nat.le_of_ble_eq_true rfl)
  rw [lg_entry_eq]
  generalize (lg_sl ([.ref u, .int a, .int b]) ++ List.replicate (3 - (lg_sl ([.ref u, .int a, .int b])).length) Slot.unset).toArray = ls at hl ⊢
  have hl : lv_has ls 3 [(0, .ref u), (1, .int a), (2, .int b)] := hl
  have hFK : FK [32, 33, 34] f f u := FK.refl
  have hKP : KP G [13] false f f := KP.refl
  refine lv_iload_n G0.1 G0.2.1 dX12_set_0 rfl (lv_at hl 1 rfl) ?_
  refine lv_iconst (v := 0) G0.1 G0.2.1 dX12_set_1 (by decide) ?_
  refine lv_iconst (v := 2) G0.1 G0.2.1 dX12_set_2 (by decide) ?_
  refine py_calli hw (va_runS (As := [.int a, .int 0, .int 2]) (rest := []) G0 (c_X12_in l E G L f s.heap.size a 0 2 hG hWF) (va_cwS 3 G0.2.2.2.2 g_X12_set_X12_in_232 rfl rfl rfl (by decide +kernel) ⟨(Nat.le_of_ble_eq_true rfl), (Nat.le_of_ble_eq_true rfl)⟩) (py_preS hw) rfl rfl hl.1 rfl (lv_room (Nat.le_of_ble_eq_true rfl)) dX12_set_3 ⟨(Nat.le_of_ble_eq_true rfl), (Nat.le_of_ble_eq_true rfl)⟩) (fun r_5 L_1 f_2 H_3 locs hp_4 hw => ?_)
  obtain ⟨b_8, en_6, en_7, rfl, rfl⟩ := hp_4
  have en_6 : r_5.toInt ≠ 0 → (0 : Int) ≤ a.toInt ∧ a.toInt ≤ (2 : Int) := en_6
  have en_7 : r_5.toInt = 0 → a.toInt < (0 : Int) ∨ (2 : Int) < a.toInt := en_7
  refine lv_if_eq (tgt := 37) G0.1 G0.2.1 dX12_set_6 (by decide) (fun c_9 => ?_) (fun c_9 => ?_)
  · skip
    have tc_9 := ti_eq c_9
    clear en_6
    replace en_7 := en_7 (by omega)
    refine lv_iconst (v := 0) G0.1 G0.2.1 dX12_set_37 (by decide) ?_
    exact py_iret G0 hr rfl hlk hw ⟨⟨by omega, by omega⟩, (by first | omega | (intro q; omega)), (by first | omega | (intro q; omega)), hWF, hKP, hFK⟩ dX12_set_38
  · skip
    have tc_9 := ti_ne c_9
    replace en_6 := en_6 (by omega)
    clear en_7
    refine lv_iload_n G0.1 G0.2.1 dX12_set_9 rfl (lv_at hl 2 rfl) ?_
    refine lv_iconst (v := 0) G0.1 G0.2.1 dX12_set_10 (by decide) ?_
    refine lv_iload_n G0.1 G0.2.1 dX12_set_11 rfl (lv_at hl 1 rfl) ?_
    refine lv_if_ne (tgt := 20) G0.1 G0.2.1 dX12_set_12 (by decide) (fun c_10 => ?_) (fun c_10 => ?_)
    · skip
      have tc_10 := ti_ne c_10
      refine lv_iload_n G0.1 G0.2.1 dX12_set_20 rfl (lv_at hl 1 rfl) ?_
      refine lv_iconst (v := 1) G0.1 G0.2.1 dX12_set_21 (by decide) ?_
      refine lv_icmp_ne (tgt := 29) G0.1 G0.2.1 dX12_set_22 (by decide) (fun c_11 => ?_) (fun c_11 => ?_)
      · skip
        have tc_11 := ti_ne c_11
        refine lv_bipush (v := 99) G0.1 G0.2.1 dX12_set_29 (by decide) ?_
        refine py_calli hw (va_runS (As := [.int b, .int 0, .int 99]) (rest := []) G0 (c_X12_in l E G L f H_3.size b 0 99 hG hWF) (va_cwS 3 G0.2.2.2.2 g_X12_set_X12_in_232 rfl rfl rfl (by decide +kernel) ⟨(Nat.le_of_ble_eq_true rfl), (Nat.le_of_ble_eq_true rfl)⟩) (py_preS hw) rfl rfl hl.1 rfl (lv_room (Nat.le_of_ble_eq_true rfl)) dX12_set_31 ⟨(Nat.le_of_ble_eq_true rfl), (Nat.le_of_ble_eq_true rfl)⟩) (fun r_16 L_12 f_13 H_14 locs hp_15 hw => ?_)
        obtain ⟨b_19, en_17, en_18, rfl, rfl⟩ := hp_15
        have en_17 : r_16.toInt ≠ 0 → (0 : Int) ≤ b.toInt ∧ b.toInt ≤ (99 : Int) := en_17
        have en_18 : r_16.toInt = 0 → b.toInt < (0 : Int) ∨ (99 : Int) < b.toInt := en_18
        refine lv_if_ne (tgt := 39) G0.1 G0.2.1 dX12_set_34 (by decide) (fun c_20 => ?_) (fun c_20 => ?_)
        · skip
          have tc_20 := ti_ne c_20
          replace en_17 := en_17 (by omega)
          clear en_18
          refine lv_aload_n G0.1 G0.2.1 dX12_set_39 rfl (lv_at hl 0 rfl) ?_
          refine lv_iload_n G0.1 G0.2.1 dX12_set_40 rfl (lv_at hl 1 rfl) ?_
          have jn_52 : ∀ (v_21 : Int32) (H_j52 : Heap) (locs : List Loc) (ls : Array Slot), py_W E (va_A (va_pl L f) s.heap.size) s L f H_j52 locs → lv_has ls 3 [(0, .ref u), (1, .int a), (2, .int b)] → W p l e (headSpec w_X12_set ({ frames := 1, cells := 0, slots := 0, locals := 22 })).room s m ([.ref u, .int a, .int b] : List Value).toArray below meth c H_j52 locs 0 0 (MQ below (py_Qi E L f s.heap.size (fun r L1 f1 => (0 ≤ r.toInt ∧ r.toInt ≤ 1) ∧ (r.toInt ≠ 0 → ((a.toInt = 0 ∧ 0 ≤ b.toInt ∧ b.toInt ≤ 100) ∨ (a.toInt = 1 ∧ 0 ≤ b.toInt ∧ b.toInt ≤ 1) ∨ (a.toInt = 2 ∧ 0 ≤ b.toInt ∧ b.toInt ≤ 99))) ∧ (((a.toInt = 0 ∧ 0 ≤ b.toInt ∧ b.toInt ≤ 100) ∨ (a.toInt = 1 ∧ 0 ≤ b.toInt ∧ b.toInt ≤ 1) ∨ (a.toInt = 2 ∧ 0 ≤ b.toInt ∧ b.toInt ≤ 99)) → r.toInt ≠ 0) ∧ WF E G L1 f1 ∧ KP G [13] false f f1 ∧ FK [32, 33, 34] f f1 u)) ([.ref u, .int a, .int b] : List Value).toArray s 0 0 (va_A (va_pl L f) s.heap.size)) (F0 m 52 ls [.int v_21, .ref u]) := by
            intro v_21 H_j52 locs ls hw hl
            obtain ⟨v_22, v_23, v_24, v_25, v_26, v_27, v_28, v_29, v_30, v_31, v_32, v_33, y_34, v_35, v_36, v_37, v_38, v_39, y_40, v_41, y_42, v_43, hr_56, b_44, b_45, b_46, b_47, b_48, b_49, b_50, b_51, b_52, b_53, b_54, b_55⟩ := wg_12 hWF Tu
            refine py_put (C := RX12) (T := TX12) (N := 54) (k := 32) (v := .int v_21) (fs' := [.int v_22, .ref (G.2 u 1), .int v_23, .int v_24, .int v_25, .int v_26, .ref (G.2 u 6), .ref (G.2 u 7), .ref (G.2 u 8), .ref (G.2 u 9), .ref (G.2 u 10), .ref (G.2 u 11), .ref (G.2 u 12), .int v_27, .int v_28, .ref (G.2 u 15), .ref (G.2 u 16), .ref (G.2 u 17), .ref (G.2 u 18), .int v_29, .int v_30, .ref (G.2 u 21), .ref (G.2 u 22), .ref (G.2 u 23), .int v_31, .int v_32, .ref (G.2 u 26), .ref (G.2 u 27), .ref (G.2 u 28), .int v_33, .long y_34, .int v_35, .int v_21, .int v_37, .int v_38, .ref (G.2 u 35), .ref (G.2 u 36), .ref (G.2 u 37), .ref (G.2 u 38), .ref (G.2 u 39), .ref (G.2 u 40), .ref (G.2 u 41), .ref (G.2 u 42), .int v_39, .ref (G.2 u 44), .ref (G.2 u 45), .ref (G.2 u 46), .ref (G.2 u 47), .long y_40, .ref (G.2 u 49), .ref (G.2 u 50), .int v_41, .long y_42, .int v_43]) (ty0 := tyX12) G0 hw tyX12_ok nmX12 in_X12_set_X12 rfl hr_56 (by decide) (by decide +kernel) rfl rfl rfl rfl (Nat.le_of_ble_eq_true rfl) rfl dX12_set_52 (fun f_57 H_58 locs h_59 x_60 hw => ?_)
            have hFK := hFK.put hr_56 h_59 32 (by decide) rfl
            have hKP := hKP.upd hWF x_60 Tu (Or.inl (by decide))
            have hWF := wf_upd hWF h_59 x_60 (by rw [Tu]; exact ⟨v_22, v_23, v_24, v_25, v_26, v_27, v_28, v_29, v_30, v_31, v_32, v_33, y_34, v_35, v_21, v_37, v_38, v_39, y_40, v_41, y_42, v_43, rfl, ⟨by omega, by omega⟩, ⟨by omega, by omega⟩, ⟨by omega, by omega⟩, ⟨by omega, by omega⟩, ⟨by omega, by omega⟩, ⟨by omega, by omega⟩, ⟨by omega, by omega⟩, ⟨by omega, by omega⟩, ⟨by omega, by omega⟩, ⟨by omega, by omega⟩, ⟨by omega, by omega⟩, ⟨by omega, by omega⟩⟩)
            refine lv_aload_n G0.1 G0.2.1 dX12_set_55 rfl (lv_at hl 0 rfl) ?_
            refine lv_iload_n G0.1 G0.2.1 dX12_set_56 rfl (lv_at hl 1 rfl) ?_
            refine lv_iconst (v := 1) G0.1 G0.2.1 dX12_set_57 (by decide) ?_
            have jn_69 : ∀ (v_61 : Int32) (H_j69 : Heap) (locs : List Loc) (ls : Array Slot), py_W E (va_A (va_pl L f) s.heap.size) s L f_57 H_j69 locs → lv_has ls 3 [(0, .ref u), (1, .int a), (2, .int b)] → W p l e (headSpec w_X12_set ({ frames := 1, cells := 0, slots := 0, locals := 22 })).room s m ([.ref u, .int a, .int b] : List Value).toArray below meth c H_j69 locs 0 0 (MQ below (py_Qi E L f s.heap.size (fun r L1 f1 => (0 ≤ r.toInt ∧ r.toInt ≤ 1) ∧ (r.toInt ≠ 0 → ((a.toInt = 0 ∧ 0 ≤ b.toInt ∧ b.toInt ≤ 100) ∨ (a.toInt = 1 ∧ 0 ≤ b.toInt ∧ b.toInt ≤ 1) ∨ (a.toInt = 2 ∧ 0 ≤ b.toInt ∧ b.toInt ≤ 99))) ∧ (((a.toInt = 0 ∧ 0 ≤ b.toInt ∧ b.toInt ≤ 100) ∨ (a.toInt = 1 ∧ 0 ≤ b.toInt ∧ b.toInt ≤ 1) ∨ (a.toInt = 2 ∧ 0 ≤ b.toInt ∧ b.toInt ≤ 99)) → r.toInt ≠ 0) ∧ WF E G L1 f1 ∧ KP G [13] false f f1 ∧ FK [32, 33, 34] f f1 u)) ([.ref u, .int a, .int b] : List Value).toArray s 0 0 (va_A (va_pl L f) s.heap.size)) (F0 m 69 ls [.int v_61, .ref u]) := by
              intro v_61 H_j69 locs ls hw hl
              refine py_put (C := RX12) (T := TX12) (N := 54) (k := 33) (v := .int v_61) (fs' := [.int v_22, .ref (G.2 u 1), .int v_23, .int v_24, .int v_25, .int v_26, .ref (G.2 u 6), .ref (G.2 u 7), .ref (G.2 u 8), .ref (G.2 u 9), .ref (G.2 u 10), .ref (G.2 u 11), .ref (G.2 u 12), .int v_27, .int v_28, .ref (G.2 u 15), .ref (G.2 u 16), .ref (G.2 u 17), .ref (G.2 u 18), .int v_29, .int v_30, .ref (G.2 u 21), .ref (G.2 u 22), .ref (G.2 u 23), .int v_31, .int v_32, .ref (G.2 u 26), .ref (G.2 u 27), .ref (G.2 u 28), .int v_33, .long y_34, .int v_35, .int v_21, .int v_61, .int v_38, .ref (G.2 u 35), .ref (G.2 u 36), .ref (G.2 u 37), .ref (G.2 u 38), .ref (G.2 u 39), .ref (G.2 u 40), .ref (G.2 u 41), .ref (G.2 u 42), .int v_39, .ref (G.2 u 44), .ref (G.2 u 45), .ref (G.2 u 46), .ref (G.2 u 47), .long y_40, .ref (G.2 u 49), .ref (G.2 u 50), .int v_41, .long y_42, .int v_43]) (ty0 := tyX12) G0 hw tyX12_ok nmX12 in_X12_set_X12 rfl h_59 (by decide) (by decide +kernel) rfl rfl rfl rfl (Nat.le_of_ble_eq_true rfl) rfl dX12_set_69 (fun f_62 H_63 locs h_64 x_65 hw => ?_)
              have hFK := hFK.put h_59 h_64 33 (by decide) rfl
              have hKP := hKP.upd hWF x_65 Tu (Or.inl (by decide))
              have hWF := wf_upd hWF h_64 x_65 (by rw [Tu]; exact ⟨v_22, v_23, v_24, v_25, v_26, v_27, v_28, v_29, v_30, v_31, v_32, v_33, y_34, v_35, v_21, v_61, v_38, v_39, y_40, v_41, y_42, v_43, rfl, ⟨by omega, by omega⟩, ⟨by omega, by omega⟩, ⟨by omega, by omega⟩, ⟨by omega, by omega⟩, ⟨by omega, by omega⟩, ⟨by omega, by omega⟩, ⟨by omega, by omega⟩, ⟨by omega, by omega⟩, ⟨by omega, by omega⟩, ⟨by omega, by omega⟩, ⟨by omega, by omega⟩, ⟨by omega, by omega⟩⟩)
              refine lv_aload_n G0.1 G0.2.1 dX12_set_72 rfl (lv_at hl 0 rfl) ?_
              refine lv_iload_n G0.1 G0.2.1 dX12_set_73 rfl (lv_at hl 1 rfl) ?_
              refine lv_iconst (v := 2) G0.1 G0.2.1 dX12_set_74 (by decide) ?_
              have jn_86 : ∀ (v_66 : Int32) (H_j86 : Heap) (locs : List Loc) (ls : Array Slot), py_W E (va_A (va_pl L f) s.heap.size) s L f_62 H_j86 locs → lv_has ls 3 [(0, .ref u), (1, .int a), (2, .int b)] → W p l e (headSpec w_X12_set ({ frames := 1, cells := 0, slots := 0, locals := 22 })).room s m ([.ref u, .int a, .int b] : List Value).toArray below meth c H_j86 locs 0 0 (MQ below (py_Qi E L f s.heap.size (fun r L1 f1 => (0 ≤ r.toInt ∧ r.toInt ≤ 1) ∧ (r.toInt ≠ 0 → ((a.toInt = 0 ∧ 0 ≤ b.toInt ∧ b.toInt ≤ 100) ∨ (a.toInt = 1 ∧ 0 ≤ b.toInt ∧ b.toInt ≤ 1) ∨ (a.toInt = 2 ∧ 0 ≤ b.toInt ∧ b.toInt ≤ 99))) ∧ (((a.toInt = 0 ∧ 0 ≤ b.toInt ∧ b.toInt ≤ 100) ∨ (a.toInt = 1 ∧ 0 ≤ b.toInt ∧ b.toInt ≤ 1) ∨ (a.toInt = 2 ∧ 0 ≤ b.toInt ∧ b.toInt ≤ 99)) → r.toInt ≠ 0) ∧ WF E G L1 f1 ∧ KP G [13] false f f1 ∧ FK [32, 33, 34] f f1 u)) ([.ref u, .int a, .int b] : List Value).toArray s 0 0 (va_A (va_pl L f) s.heap.size)) (F0 m 86 ls [.int v_66, .ref u]) := by
                intro v_66 H_j86 locs ls hw hl
                refine py_put (C := RX12) (T := TX12) (N := 54) (k := 34) (v := .int v_66) (fs' := [.int v_22, .ref (G.2 u 1), .int v_23, .int v_24, .int v_25, .int v_26, .ref (G.2 u 6), .ref (G.2 u 7), .ref (G.2 u 8), .ref (G.2 u 9), .ref (G.2 u 10), .ref (G.2 u 11), .ref (G.2 u 12), .int v_27, .int v_28, .ref (G.2 u 15), .ref (G.2 u 16), .ref (G.2 u 17), .ref (G.2 u 18), .int v_29, .int v_30, .ref (G.2 u 21), .ref (G.2 u 22), .ref (G.2 u 23), .int v_31, .int v_32, .ref (G.2 u 26), .ref (G.2 u 27), .ref (G.2 u 28), .int v_33, .long y_34, .int v_35, .int v_21, .int v_61, .int v_66, .ref (G.2 u 35), .ref (G.2 u 36), .ref (G.2 u 37), .ref (G.2 u 38), .ref (G.2 u 39), .ref (G.2 u 40), .ref (G.2 u 41), .ref (G.2 u 42), .int v_39, .ref (G.2 u 44), .ref (G.2 u 45), .ref (G.2 u 46), .ref (G.2 u 47), .long y_40, .ref (G.2 u 49), .ref (G.2 u 50), .int v_41, .long y_42, .int v_43]) (ty0 := tyX12) G0 hw tyX12_ok nmX12 in_X12_set_X12 rfl h_64 (by decide) (by decide +kernel) rfl rfl rfl rfl (Nat.le_of_ble_eq_true rfl) rfl dX12_set_86 (fun f_67 H_68 locs h_69 x_70 hw => ?_)
                have hFK := hFK.put h_64 h_69 34 (by decide) rfl
                have hKP := hKP.upd hWF x_70 Tu (Or.inl (by decide))
                have hWF := wf_upd hWF h_69 x_70 (by rw [Tu]; exact ⟨v_22, v_23, v_24, v_25, v_26, v_27, v_28, v_29, v_30, v_31, v_32, v_33, y_34, v_35, v_21, v_61, v_66, v_39, y_40, v_41, y_42, v_43, rfl, ⟨by omega, by omega⟩, ⟨by omega, by omega⟩, ⟨by omega, by omega⟩, ⟨by omega, by omega⟩, ⟨by omega, by omega⟩, ⟨by omega, by omega⟩, ⟨by omega, by omega⟩, ⟨by omega, by omega⟩, ⟨by omega, by omega⟩, ⟨by omega, by omega⟩, ⟨by omega, by omega⟩, ⟨by omega, by omega⟩⟩)
                refine lv_iconst (v := 1) G0.1 G0.2.1 dX12_set_89 (by decide) ?_
                exact py_iret G0 hr rfl hlk hw ⟨⟨by omega, by omega⟩, (by first | omega | (intro q; omega)), (by first | omega | (intro q; omega)), hWF, hKP, hFK⟩ dX12_set_90
              refine lv_icmp_ne (tgt := 82) G0.1 G0.2.1 dX12_set_75 (by decide) (fun c_71 => ?_) (fun c_71 => ?_)
              · skip
                have tc_71 := ti_ne c_71
                refine lv_aload_n G0.1 G0.2.1 dX12_set_82 rfl (lv_at hl 0 rfl) ?_
                refine py_get (C := RX12) (T := TX12) (N := 54) (k := 34) (v := .int v_38) G0 hw in_X12_set_X12 rfl h_64 (by decide) (by decide +kernel) rfl dX12_set_83 ?_
                exact jn_86 v_38 _ _ ls hw (lv_sub hl [0, 1, 2] rfl)
              · skip
                have tc_71 := ti_eq c_71
                refine lv_iload_n G0.1 G0.2.1 dX12_set_78 rfl (lv_at hl 2 rfl) ?_
                refine lv_goto (tgt := 86) G0.1 G0.2.1 dX12_set_79 (by decide) ?_
                exact jn_86 b _ _ ls hw (lv_sub hl [0, 1, 2] rfl)
            refine lv_icmp_ne (tgt := 65) G0.1 G0.2.1 dX12_set_58 (by decide) (fun c_72 => ?_) (fun c_72 => ?_)
            · skip
              have tc_72 := ti_ne c_72
              refine lv_aload_n G0.1 G0.2.1 dX12_set_65 rfl (lv_at hl 0 rfl) ?_
              refine py_get (C := RX12) (T := TX12) (N := 54) (k := 33) (v := .int v_37) G0 hw in_X12_set_X12 rfl h_59 (by decide) (by decide +kernel) rfl dX12_set_66 ?_
              exact jn_69 v_37 _ _ ls hw (lv_sub hl [0, 1, 2] rfl)
            · skip
              have tc_72 := ti_eq c_72
              refine lv_iload_n G0.1 G0.2.1 dX12_set_61 rfl (lv_at hl 2 rfl) ?_
              refine lv_goto (tgt := 69) G0.1 G0.2.1 dX12_set_62 (by decide) ?_
              exact jn_69 b _ _ ls hw (lv_sub hl [0, 1, 2] rfl)
          refine lv_if_ne (tgt := 48) G0.1 G0.2.1 dX12_set_41 (by decide) (fun c_73 => ?_) (fun c_73 => ?_)
          · skip
            have tc_73 := ti_ne c_73
            refine lv_aload_n G0.1 G0.2.1 dX12_set_48 rfl (lv_at hl 0 rfl) ?_
            obtain ⟨v_74, v_75, v_76, v_77, v_78, v_79, v_80, v_81, v_82, v_83, v_84, v_85, y_86, v_87, v_88, v_89, v_90, v_91, y_92, v_93, y_94, v_95, hr_108, b_96, b_97, b_98, b_99, b_100, b_101, b_102, b_103, b_104, b_105, b_106, b_107⟩ := wg_12 hWF Tu
            refine py_get (C := RX12) (T := TX12) (N := 54) (k := 32) (v := .int v_88) G0 hw in_X12_set_X12 rfl hr_108 (by decide) (by decide +kernel) rfl dX12_set_49 ?_
            exact jn_52 v_88 _ _ ls hw (lv_sub hl [0, 1, 2] rfl)
          · skip
            have tc_73 := ti_eq c_73
            refine lv_iload_n G0.1 G0.2.1 dX12_set_44 rfl (lv_at hl 2 rfl) ?_
            refine lv_goto (tgt := 52) G0.1 G0.2.1 dX12_set_45 (by decide) ?_
            exact jn_52 b _ _ ls hw (lv_sub hl [0, 1, 2] rfl)
        · skip
          have tc_20 := ti_eq c_20
          clear en_17
          replace en_18 := en_18 (by omega)
          refine lv_iconst (v := 0) G0.1 G0.2.1 dX12_set_37 (by decide) ?_
          exact py_iret G0 hr rfl hlk hw ⟨⟨by omega, by omega⟩, (by first | omega | (intro q; omega)), (by first | omega | (intro q; omega)), hWF, hKP, hFK⟩ dX12_set_38
      · skip
        have tc_11 := ti_eq c_11
        refine lv_iconst (v := 1) G0.1 G0.2.1 dX12_set_25 (by decide) ?_
        refine lv_goto (tgt := 31) G0.1 G0.2.1 dX12_set_26 (by decide) ?_
        refine py_calli hw (va_runS (As := [.int b, .int 0, .int 1]) (rest := []) G0 (c_X12_in l E G L f H_3.size b 0 1 hG hWF) (va_cwS 3 G0.2.2.2.2 g_X12_set_X12_in_232 rfl rfl rfl (by decide +kernel) ⟨(Nat.le_of_ble_eq_true rfl), (Nat.le_of_ble_eq_true rfl)⟩) (py_preS hw) rfl rfl hl.1 rfl (lv_room (Nat.le_of_ble_eq_true rfl)) dX12_set_31 ⟨(Nat.le_of_ble_eq_true rfl), (Nat.le_of_ble_eq_true rfl)⟩) (fun r_113 L_109 f_110 H_111 locs hp_112 hw => ?_)
        obtain ⟨b_116, en_114, en_115, rfl, rfl⟩ := hp_112
        have en_114 : r_113.toInt ≠ 0 → (0 : Int) ≤ b.toInt ∧ b.toInt ≤ (1 : Int) := en_114
        have en_115 : r_113.toInt = 0 → b.toInt < (0 : Int) ∨ (1 : Int) < b.toInt := en_115
        refine lv_if_ne (tgt := 39) G0.1 G0.2.1 dX12_set_34 (by decide) (fun c_117 => ?_) (fun c_117 => ?_)
        · skip
          have tc_117 := ti_ne c_117
          replace en_114 := en_114 (by omega)
          clear en_115
          refine lv_aload_n G0.1 G0.2.1 dX12_set_39 rfl (lv_at hl 0 rfl) ?_
          refine lv_iload_n G0.1 G0.2.1 dX12_set_40 rfl (lv_at hl 1 rfl) ?_
          have jn_52 : ∀ (v_118 : Int32) (H_j52 : Heap) (locs : List Loc) (ls : Array Slot), py_W E (va_A (va_pl L f) s.heap.size) s L f H_j52 locs → lv_has ls 3 [(0, .ref u), (1, .int a), (2, .int b)] → W p l e (headSpec w_X12_set ({ frames := 1, cells := 0, slots := 0, locals := 22 })).room s m ([.ref u, .int a, .int b] : List Value).toArray below meth c H_j52 locs 0 0 (MQ below (py_Qi E L f s.heap.size (fun r L1 f1 => (0 ≤ r.toInt ∧ r.toInt ≤ 1) ∧ (r.toInt ≠ 0 → ((a.toInt = 0 ∧ 0 ≤ b.toInt ∧ b.toInt ≤ 100) ∨ (a.toInt = 1 ∧ 0 ≤ b.toInt ∧ b.toInt ≤ 1) ∨ (a.toInt = 2 ∧ 0 ≤ b.toInt ∧ b.toInt ≤ 99))) ∧ (((a.toInt = 0 ∧ 0 ≤ b.toInt ∧ b.toInt ≤ 100) ∨ (a.toInt = 1 ∧ 0 ≤ b.toInt ∧ b.toInt ≤ 1) ∨ (a.toInt = 2 ∧ 0 ≤ b.toInt ∧ b.toInt ≤ 99)) → r.toInt ≠ 0) ∧ WF E G L1 f1 ∧ KP G [13] false f f1 ∧ FK [32, 33, 34] f f1 u)) ([.ref u, .int a, .int b] : List Value).toArray s 0 0 (va_A (va_pl L f) s.heap.size)) (F0 m 52 ls [.int v_118, .ref u]) := by
            intro v_118 H_j52 locs ls hw hl
            obtain ⟨v_119, v_120, v_121, v_122, v_123, v_124, v_125, v_126, v_127, v_128, v_129, v_130, y_131, v_132, v_133, v_134, v_135, v_136, y_137, v_138, y_139, v_140, hr_153, b_141, b_142, b_143, b_144, b_145, b_146, b_147, b_148, b_149, b_150, b_151, b_152⟩ := wg_12 hWF Tu
            refine py_put (C := RX12) (T := TX12) (N := 54) (k := 32) (v := .int v_118) (fs' := [.int v_119, .ref (G.2 u 1), .int v_120, .int v_121, .int v_122, .int v_123, .ref (G.2 u 6), .ref (G.2 u 7), .ref (G.2 u 8), .ref (G.2 u 9), .ref (G.2 u 10), .ref (G.2 u 11), .ref (G.2 u 12), .int v_124, .int v_125, .ref (G.2 u 15), .ref (G.2 u 16), .ref (G.2 u 17), .ref (G.2 u 18), .int v_126, .int v_127, .ref (G.2 u 21), .ref (G.2 u 22), .ref (G.2 u 23), .int v_128, .int v_129, .ref (G.2 u 26), .ref (G.2 u 27), .ref (G.2 u 28), .int v_130, .long y_131, .int v_132, .int v_118, .int v_134, .int v_135, .ref (G.2 u 35), .ref (G.2 u 36), .ref (G.2 u 37), .ref (G.2 u 38), .ref (G.2 u 39), .ref (G.2 u 40), .ref (G.2 u 41), .ref (G.2 u 42), .int v_136, .ref (G.2 u 44), .ref (G.2 u 45), .ref (G.2 u 46), .ref (G.2 u 47), .long y_137, .ref (G.2 u 49), .ref (G.2 u 50), .int v_138, .long y_139, .int v_140]) (ty0 := tyX12) G0 hw tyX12_ok nmX12 in_X12_set_X12 rfl hr_153 (by decide) (by decide +kernel) rfl rfl rfl rfl (Nat.le_of_ble_eq_true rfl) rfl dX12_set_52 (fun f_154 H_155 locs h_156 x_157 hw => ?_)
            have hFK := hFK.put hr_153 h_156 32 (by decide) rfl
            have hKP := hKP.upd hWF x_157 Tu (Or.inl (by decide))
            have hWF := wf_upd hWF h_156 x_157 (by rw [Tu]; exact ⟨v_119, v_120, v_121, v_122, v_123, v_124, v_125, v_126, v_127, v_128, v_129, v_130, y_131, v_132, v_118, v_134, v_135, v_136, y_137, v_138, y_139, v_140, rfl, ⟨by omega, by omega⟩, ⟨by omega, by omega⟩, ⟨by omega, by omega⟩, ⟨by omega, by omega⟩, ⟨by omega, by omega⟩, ⟨by omega, by omega⟩, ⟨by omega, by omega⟩, ⟨by omega, by omega⟩, ⟨by omega, by omega⟩, ⟨by omega, by omega⟩, ⟨by omega, by omega⟩, ⟨by omega, by omega⟩⟩)
            refine lv_aload_n G0.1 G0.2.1 dX12_set_55 rfl (lv_at hl 0 rfl) ?_
            refine lv_iload_n G0.1 G0.2.1 dX12_set_56 rfl (lv_at hl 1 rfl) ?_
            refine lv_iconst (v := 1) G0.1 G0.2.1 dX12_set_57 (by decide) ?_
            have jn_69 : ∀ (v_158 : Int32) (H_j69 : Heap) (locs : List Loc) (ls : Array Slot), py_W E (va_A (va_pl L f) s.heap.size) s L f_154 H_j69 locs → lv_has ls 3 [(0, .ref u), (1, .int a), (2, .int b)] → W p l e (headSpec w_X12_set ({ frames := 1, cells := 0, slots := 0, locals := 22 })).room s m ([.ref u, .int a, .int b] : List Value).toArray below meth c H_j69 locs 0 0 (MQ below (py_Qi E L f s.heap.size (fun r L1 f1 => (0 ≤ r.toInt ∧ r.toInt ≤ 1) ∧ (r.toInt ≠ 0 → ((a.toInt = 0 ∧ 0 ≤ b.toInt ∧ b.toInt ≤ 100) ∨ (a.toInt = 1 ∧ 0 ≤ b.toInt ∧ b.toInt ≤ 1) ∨ (a.toInt = 2 ∧ 0 ≤ b.toInt ∧ b.toInt ≤ 99))) ∧ (((a.toInt = 0 ∧ 0 ≤ b.toInt ∧ b.toInt ≤ 100) ∨ (a.toInt = 1 ∧ 0 ≤ b.toInt ∧ b.toInt ≤ 1) ∨ (a.toInt = 2 ∧ 0 ≤ b.toInt ∧ b.toInt ≤ 99)) → r.toInt ≠ 0) ∧ WF E G L1 f1 ∧ KP G [13] false f f1 ∧ FK [32, 33, 34] f f1 u)) ([.ref u, .int a, .int b] : List Value).toArray s 0 0 (va_A (va_pl L f) s.heap.size)) (F0 m 69 ls [.int v_158, .ref u]) := by
              intro v_158 H_j69 locs ls hw hl
              refine py_put (C := RX12) (T := TX12) (N := 54) (k := 33) (v := .int v_158) (fs' := [.int v_119, .ref (G.2 u 1), .int v_120, .int v_121, .int v_122, .int v_123, .ref (G.2 u 6), .ref (G.2 u 7), .ref (G.2 u 8), .ref (G.2 u 9), .ref (G.2 u 10), .ref (G.2 u 11), .ref (G.2 u 12), .int v_124, .int v_125, .ref (G.2 u 15), .ref (G.2 u 16), .ref (G.2 u 17), .ref (G.2 u 18), .int v_126, .int v_127, .ref (G.2 u 21), .ref (G.2 u 22), .ref (G.2 u 23), .int v_128, .int v_129, .ref (G.2 u 26), .ref (G.2 u 27), .ref (G.2 u 28), .int v_130, .long y_131, .int v_132, .int v_118, .int v_158, .int v_135, .ref (G.2 u 35), .ref (G.2 u 36), .ref (G.2 u 37), .ref (G.2 u 38), .ref (G.2 u 39), .ref (G.2 u 40), .ref (G.2 u 41), .ref (G.2 u 42), .int v_136, .ref (G.2 u 44), .ref (G.2 u 45), .ref (G.2 u 46), .ref (G.2 u 47), .long y_137, .ref (G.2 u 49), .ref (G.2 u 50), .int v_138, .long y_139, .int v_140]) (ty0 := tyX12) G0 hw tyX12_ok nmX12 in_X12_set_X12 rfl h_156 (by decide) (by decide +kernel) rfl rfl rfl rfl (Nat.le_of_ble_eq_true rfl) rfl dX12_set_69 (fun f_159 H_160 locs h_161 x_162 hw => ?_)
              have hFK := hFK.put h_156 h_161 33 (by decide) rfl
              have hKP := hKP.upd hWF x_162 Tu (Or.inl (by decide))
              have hWF := wf_upd hWF h_161 x_162 (by rw [Tu]; exact ⟨v_119, v_120, v_121, v_122, v_123, v_124, v_125, v_126, v_127, v_128, v_129, v_130, y_131, v_132, v_118, v_158, v_135, v_136, y_137, v_138, y_139, v_140, rfl, ⟨by omega, by omega⟩, ⟨by omega, by omega⟩, ⟨by omega, by omega⟩, ⟨by omega, by omega⟩, ⟨by omega, by omega⟩, ⟨by omega, by omega⟩, ⟨by omega, by omega⟩, ⟨by omega, by omega⟩, ⟨by omega, by omega⟩, ⟨by omega, by omega⟩, ⟨by omega, by omega⟩, ⟨by omega, by omega⟩⟩)
              refine lv_aload_n G0.1 G0.2.1 dX12_set_72 rfl (lv_at hl 0 rfl) ?_
              refine lv_iload_n G0.1 G0.2.1 dX12_set_73 rfl (lv_at hl 1 rfl) ?_
              refine lv_iconst (v := 2) G0.1 G0.2.1 dX12_set_74 (by decide) ?_
              have jn_86 : ∀ (v_163 : Int32) (H_j86 : Heap) (locs : List Loc) (ls : Array Slot), py_W E (va_A (va_pl L f) s.heap.size) s L f_159 H_j86 locs → lv_has ls 3 [(0, .ref u), (1, .int a), (2, .int b)] → W p l e (headSpec w_X12_set ({ frames := 1, cells := 0, slots := 0, locals := 22 })).room s m ([.ref u, .int a, .int b] : List Value).toArray below meth c H_j86 locs 0 0 (MQ below (py_Qi E L f s.heap.size (fun r L1 f1 => (0 ≤ r.toInt ∧ r.toInt ≤ 1) ∧ (r.toInt ≠ 0 → ((a.toInt = 0 ∧ 0 ≤ b.toInt ∧ b.toInt ≤ 100) ∨ (a.toInt = 1 ∧ 0 ≤ b.toInt ∧ b.toInt ≤ 1) ∨ (a.toInt = 2 ∧ 0 ≤ b.toInt ∧ b.toInt ≤ 99))) ∧ (((a.toInt = 0 ∧ 0 ≤ b.toInt ∧ b.toInt ≤ 100) ∨ (a.toInt = 1 ∧ 0 ≤ b.toInt ∧ b.toInt ≤ 1) ∨ (a.toInt = 2 ∧ 0 ≤ b.toInt ∧ b.toInt ≤ 99)) → r.toInt ≠ 0) ∧ WF E G L1 f1 ∧ KP G [13] false f f1 ∧ FK [32, 33, 34] f f1 u)) ([.ref u, .int a, .int b] : List Value).toArray s 0 0 (va_A (va_pl L f) s.heap.size)) (F0 m 86 ls [.int v_163, .ref u]) := by
                intro v_163 H_j86 locs ls hw hl
                refine py_put (C := RX12) (T := TX12) (N := 54) (k := 34) (v := .int v_163) (fs' := [.int v_119, .ref (G.2 u 1), .int v_120, .int v_121, .int v_122, .int v_123, .ref (G.2 u 6), .ref (G.2 u 7), .ref (G.2 u 8), .ref (G.2 u 9), .ref (G.2 u 10), .ref (G.2 u 11), .ref (G.2 u 12), .int v_124, .int v_125, .ref (G.2 u 15), .ref (G.2 u 16), .ref (G.2 u 17), .ref (G.2 u 18), .int v_126, .int v_127, .ref (G.2 u 21), .ref (G.2 u 22), .ref (G.2 u 23), .int v_128, .int v_129, .ref (G.2 u 26), .ref (G.2 u 27), .ref (G.2 u 28), .int v_130, .long y_131, .int v_132, .int v_118, .int v_158, .int v_163, .ref (G.2 u 35), .ref (G.2 u 36), .ref (G.2 u 37), .ref (G.2 u 38), .ref (G.2 u 39), .ref (G.2 u 40), .ref (G.2 u 41), .ref (G.2 u 42), .int v_136, .ref (G.2 u 44), .ref (G.2 u 45), .ref (G.2 u 46), .ref (G.2 u 47), .long y_137, .ref (G.2 u 49), .ref (G.2 u 50), .int v_138, .long y_139, .int v_140]) (ty0 := tyX12) G0 hw tyX12_ok nmX12 in_X12_set_X12 rfl h_161 (by decide) (by decide +kernel) rfl rfl rfl rfl (Nat.le_of_ble_eq_true rfl) rfl dX12_set_86 (fun f_164 H_165 locs h_166 x_167 hw => ?_)
                have hFK := hFK.put h_161 h_166 34 (by decide) rfl
                have hKP := hKP.upd hWF x_167 Tu (Or.inl (by decide))
                have hWF := wf_upd hWF h_166 x_167 (by rw [Tu]; exact ⟨v_119, v_120, v_121, v_122, v_123, v_124, v_125, v_126, v_127, v_128, v_129, v_130, y_131, v_132, v_118, v_158, v_163, v_136, y_137, v_138, y_139, v_140, rfl, ⟨by omega, by omega⟩, ⟨by omega, by omega⟩, ⟨by omega, by omega⟩, ⟨by omega, by omega⟩, ⟨by omega, by omega⟩, ⟨by omega, by omega⟩, ⟨by omega, by omega⟩, ⟨by omega, by omega⟩, ⟨by omega, by omega⟩, ⟨by omega, by omega⟩, ⟨by omega, by omega⟩, ⟨by omega, by omega⟩⟩)
                refine lv_iconst (v := 1) G0.1 G0.2.1 dX12_set_89 (by decide) ?_
                exact py_iret G0 hr rfl hlk hw ⟨⟨by omega, by omega⟩, (by first | omega | (intro q; omega)), (by first | omega | (intro q; omega)), hWF, hKP, hFK⟩ dX12_set_90
              refine lv_icmp_ne (tgt := 82) G0.1 G0.2.1 dX12_set_75 (by decide) (fun c_168 => ?_) (fun c_168 => ?_)
              · skip
                have tc_168 := ti_ne c_168
                refine lv_aload_n G0.1 G0.2.1 dX12_set_82 rfl (lv_at hl 0 rfl) ?_
                refine py_get (C := RX12) (T := TX12) (N := 54) (k := 34) (v := .int v_135) G0 hw in_X12_set_X12 rfl h_161 (by decide) (by decide +kernel) rfl dX12_set_83 ?_
                exact jn_86 v_135 _ _ ls hw (lv_sub hl [0, 1, 2] rfl)
              · skip
                have tc_168 := ti_eq c_168
                refine lv_iload_n G0.1 G0.2.1 dX12_set_78 rfl (lv_at hl 2 rfl) ?_
                refine lv_goto (tgt := 86) G0.1 G0.2.1 dX12_set_79 (by decide) ?_
                exact jn_86 b _ _ ls hw (lv_sub hl [0, 1, 2] rfl)
            refine lv_icmp_ne (tgt := 65) G0.1 G0.2.1 dX12_set_58 (by decide) (fun c_169 => ?_) (fun c_169 => ?_)
            · skip
              have tc_169 := ti_ne c_169
              refine lv_aload_n G0.1 G0.2.1 dX12_set_65 rfl (lv_at hl 0 rfl) ?_
              refine py_get (C := RX12) (T := TX12) (N := 54) (k := 33) (v := .int v_134) G0 hw in_X12_set_X12 rfl h_156 (by decide) (by decide +kernel) rfl dX12_set_66 ?_
              exact jn_69 v_134 _ _ ls hw (lv_sub hl [0, 1, 2] rfl)
            · skip
              have tc_169 := ti_eq c_169
              refine lv_iload_n G0.1 G0.2.1 dX12_set_61 rfl (lv_at hl 2 rfl) ?_
              refine lv_goto (tgt := 69) G0.1 G0.2.1 dX12_set_62 (by decide) ?_
              exact jn_69 b _ _ ls hw (lv_sub hl [0, 1, 2] rfl)
          refine lv_if_ne (tgt := 48) G0.1 G0.2.1 dX12_set_41 (by decide) (fun c_170 => ?_) (fun c_170 => ?_)
          · skip
            have tc_170 := ti_ne c_170
            refine lv_aload_n G0.1 G0.2.1 dX12_set_48 rfl (lv_at hl 0 rfl) ?_
            obtain ⟨v_171, v_172, v_173, v_174, v_175, v_176, v_177, v_178, v_179, v_180, v_181, v_182, y_183, v_184, v_185, v_186, v_187, v_188, y_189, v_190, y_191, v_192, hr_205, b_193, b_194, b_195, b_196, b_197, b_198, b_199, b_200, b_201, b_202, b_203, b_204⟩ := wg_12 hWF Tu
            refine py_get (C := RX12) (T := TX12) (N := 54) (k := 32) (v := .int v_185) G0 hw in_X12_set_X12 rfl hr_205 (by decide) (by decide +kernel) rfl dX12_set_49 ?_
            exact jn_52 v_185 _ _ ls hw (lv_sub hl [0, 1, 2] rfl)
          · skip
            have tc_170 := ti_eq c_170
            refine lv_iload_n G0.1 G0.2.1 dX12_set_44 rfl (lv_at hl 2 rfl) ?_
            refine lv_goto (tgt := 52) G0.1 G0.2.1 dX12_set_45 (by decide) ?_
            exact jn_52 b _ _ ls hw (lv_sub hl [0, 1, 2] rfl)
        · skip
          have tc_117 := ti_eq c_117
          clear en_114
          replace en_115 := en_115 (by omega)
          refine lv_iconst (v := 0) G0.1 G0.2.1 dX12_set_37 (by decide) ?_
          exact py_iret G0 hr rfl hlk hw ⟨⟨by omega, by omega⟩, (by first | omega | (intro q; omega)), (by first | omega | (intro q; omega)), hWF, hKP, hFK⟩ dX12_set_38
    · skip
      have tc_10 := ti_eq c_10
      refine lv_bipush (v := 100) G0.1 G0.2.1 dX12_set_15 (by decide) ?_
      refine lv_goto (tgt := 31) G0.1 G0.2.1 dX12_set_17 (by decide) ?_
      refine py_calli hw (va_runS (As := [.int b, .int 0, .int 100]) (rest := []) G0 (c_X12_in l E G L f H_3.size b 0 100 hG hWF) (va_cwS 3 G0.2.2.2.2 g_X12_set_X12_in_232 rfl rfl rfl (by decide +kernel) ⟨(Nat.le_of_ble_eq_true rfl), (Nat.le_of_ble_eq_true rfl)⟩) (py_preS hw) rfl rfl hl.1 rfl (lv_room (Nat.le_of_ble_eq_true rfl)) dX12_set_31 ⟨(Nat.le_of_ble_eq_true rfl), (Nat.le_of_ble_eq_true rfl)⟩) (fun r_210 L_206 f_207 H_208 locs hp_209 hw => ?_)
      obtain ⟨b_213, en_211, en_212, rfl, rfl⟩ := hp_209
      have en_211 : r_210.toInt ≠ 0 → (0 : Int) ≤ b.toInt ∧ b.toInt ≤ (100 : Int) := en_211
      have en_212 : r_210.toInt = 0 → b.toInt < (0 : Int) ∨ (100 : Int) < b.toInt := en_212
      refine lv_if_ne (tgt := 39) G0.1 G0.2.1 dX12_set_34 (by decide) (fun c_214 => ?_) (fun c_214 => ?_)
      · skip
        have tc_214 := ti_ne c_214
        replace en_211 := en_211 (by omega)
        clear en_212
        refine lv_aload_n G0.1 G0.2.1 dX12_set_39 rfl (lv_at hl 0 rfl) ?_
        refine lv_iload_n G0.1 G0.2.1 dX12_set_40 rfl (lv_at hl 1 rfl) ?_
        have jn_52 : ∀ (v_215 : Int32) (H_j52 : Heap) (locs : List Loc) (ls : Array Slot), py_W E (va_A (va_pl L f) s.heap.size) s L f H_j52 locs → lv_has ls 3 [(0, .ref u), (1, .int a), (2, .int b)] → W p l e (headSpec w_X12_set ({ frames := 1, cells := 0, slots := 0, locals := 22 })).room s m ([.ref u, .int a, .int b] : List Value).toArray below meth c H_j52 locs 0 0 (MQ below (py_Qi E L f s.heap.size (fun r L1 f1 => (0 ≤ r.toInt ∧ r.toInt ≤ 1) ∧ (r.toInt ≠ 0 → ((a.toInt = 0 ∧ 0 ≤ b.toInt ∧ b.toInt ≤ 100) ∨ (a.toInt = 1 ∧ 0 ≤ b.toInt ∧ b.toInt ≤ 1) ∨ (a.toInt = 2 ∧ 0 ≤ b.toInt ∧ b.toInt ≤ 99))) ∧ (((a.toInt = 0 ∧ 0 ≤ b.toInt ∧ b.toInt ≤ 100) ∨ (a.toInt = 1 ∧ 0 ≤ b.toInt ∧ b.toInt ≤ 1) ∨ (a.toInt = 2 ∧ 0 ≤ b.toInt ∧ b.toInt ≤ 99)) → r.toInt ≠ 0) ∧ WF E G L1 f1 ∧ KP G [13] false f f1 ∧ FK [32, 33, 34] f f1 u)) ([.ref u, .int a, .int b] : List Value).toArray s 0 0 (va_A (va_pl L f) s.heap.size)) (F0 m 52 ls [.int v_215, .ref u]) := by
          intro v_215 H_j52 locs ls hw hl
          obtain ⟨v_216, v_217, v_218, v_219, v_220, v_221, v_222, v_223, v_224, v_225, v_226, v_227, y_228, v_229, v_230, v_231, v_232, v_233, y_234, v_235, y_236, v_237, hr_250, b_238, b_239, b_240, b_241, b_242, b_243, b_244, b_245, b_246, b_247, b_248, b_249⟩ := wg_12 hWF Tu
          refine py_put (C := RX12) (T := TX12) (N := 54) (k := 32) (v := .int v_215) (fs' := [.int v_216, .ref (G.2 u 1), .int v_217, .int v_218, .int v_219, .int v_220, .ref (G.2 u 6), .ref (G.2 u 7), .ref (G.2 u 8), .ref (G.2 u 9), .ref (G.2 u 10), .ref (G.2 u 11), .ref (G.2 u 12), .int v_221, .int v_222, .ref (G.2 u 15), .ref (G.2 u 16), .ref (G.2 u 17), .ref (G.2 u 18), .int v_223, .int v_224, .ref (G.2 u 21), .ref (G.2 u 22), .ref (G.2 u 23), .int v_225, .int v_226, .ref (G.2 u 26), .ref (G.2 u 27), .ref (G.2 u 28), .int v_227, .long y_228, .int v_229, .int v_215, .int v_231, .int v_232, .ref (G.2 u 35), .ref (G.2 u 36), .ref (G.2 u 37), .ref (G.2 u 38), .ref (G.2 u 39), .ref (G.2 u 40), .ref (G.2 u 41), .ref (G.2 u 42), .int v_233, .ref (G.2 u 44), .ref (G.2 u 45), .ref (G.2 u 46), .ref (G.2 u 47), .long y_234, .ref (G.2 u 49), .ref (G.2 u 50), .int v_235, .long y_236, .int v_237]) (ty0 := tyX12) G0 hw tyX12_ok nmX12 in_X12_set_X12 rfl hr_250 (by decide) (by decide +kernel) rfl rfl rfl rfl (Nat.le_of_ble_eq_true rfl) rfl dX12_set_52 (fun f_251 H_252 locs h_253 x_254 hw => ?_)
          have hFK := hFK.put hr_250 h_253 32 (by decide) rfl
          have hKP := hKP.upd hWF x_254 Tu (Or.inl (by decide))
          have hWF := wf_upd hWF h_253 x_254 (by rw [Tu]; exact ⟨v_216, v_217, v_218, v_219, v_220, v_221, v_222, v_223, v_224, v_225, v_226, v_227, y_228, v_229, v_215, v_231, v_232, v_233, y_234, v_235, y_236, v_237, rfl, ⟨by omega, by omega⟩, ⟨by omega, by omega⟩, ⟨by omega, by omega⟩, ⟨by omega, by omega⟩, ⟨by omega, by omega⟩, ⟨by omega, by omega⟩, ⟨by omega, by omega⟩, ⟨by omega, by omega⟩, ⟨by omega, by omega⟩, ⟨by omega, by omega⟩, ⟨by omega, by omega⟩, ⟨by omega, by omega⟩⟩)
          refine lv_aload_n G0.1 G0.2.1 dX12_set_55 rfl (lv_at hl 0 rfl) ?_
          refine lv_iload_n G0.1 G0.2.1 dX12_set_56 rfl (lv_at hl 1 rfl) ?_
          refine lv_iconst (v := 1) G0.1 G0.2.1 dX12_set_57 (by decide) ?_
          have jn_69 : ∀ (v_255 : Int32) (H_j69 : Heap) (locs : List Loc) (ls : Array Slot), py_W E (va_A (va_pl L f) s.heap.size) s L f_251 H_j69 locs → lv_has ls 3 [(0, .ref u), (1, .int a), (2, .int b)] → W p l e (headSpec w_X12_set ({ frames := 1, cells := 0, slots := 0, locals := 22 })).room s m ([.ref u, .int a, .int b] : List Value).toArray below meth c H_j69 locs 0 0 (MQ below (py_Qi E L f s.heap.size (fun r L1 f1 => (0 ≤ r.toInt ∧ r.toInt ≤ 1) ∧ (r.toInt ≠ 0 → ((a.toInt = 0 ∧ 0 ≤ b.toInt ∧ b.toInt ≤ 100) ∨ (a.toInt = 1 ∧ 0 ≤ b.toInt ∧ b.toInt ≤ 1) ∨ (a.toInt = 2 ∧ 0 ≤ b.toInt ∧ b.toInt ≤ 99))) ∧ (((a.toInt = 0 ∧ 0 ≤ b.toInt ∧ b.toInt ≤ 100) ∨ (a.toInt = 1 ∧ 0 ≤ b.toInt ∧ b.toInt ≤ 1) ∨ (a.toInt = 2 ∧ 0 ≤ b.toInt ∧ b.toInt ≤ 99)) → r.toInt ≠ 0) ∧ WF E G L1 f1 ∧ KP G [13] false f f1 ∧ FK [32, 33, 34] f f1 u)) ([.ref u, .int a, .int b] : List Value).toArray s 0 0 (va_A (va_pl L f) s.heap.size)) (F0 m 69 ls [.int v_255, .ref u]) := by
            intro v_255 H_j69 locs ls hw hl
            refine py_put (C := RX12) (T := TX12) (N := 54) (k := 33) (v := .int v_255) (fs' := [.int v_216, .ref (G.2 u 1), .int v_217, .int v_218, .int v_219, .int v_220, .ref (G.2 u 6), .ref (G.2 u 7), .ref (G.2 u 8), .ref (G.2 u 9), .ref (G.2 u 10), .ref (G.2 u 11), .ref (G.2 u 12), .int v_221, .int v_222, .ref (G.2 u 15), .ref (G.2 u 16), .ref (G.2 u 17), .ref (G.2 u 18), .int v_223, .int v_224, .ref (G.2 u 21), .ref (G.2 u 22), .ref (G.2 u 23), .int v_225, .int v_226, .ref (G.2 u 26), .ref (G.2 u 27), .ref (G.2 u 28), .int v_227, .long y_228, .int v_229, .int v_215, .int v_255, .int v_232, .ref (G.2 u 35), .ref (G.2 u 36), .ref (G.2 u 37), .ref (G.2 u 38), .ref (G.2 u 39), .ref (G.2 u 40), .ref (G.2 u 41), .ref (G.2 u 42), .int v_233, .ref (G.2 u 44), .ref (G.2 u 45), .ref (G.2 u 46), .ref (G.2 u 47), .long y_234, .ref (G.2 u 49), .ref (G.2 u 50), .int v_235, .long y_236, .int v_237]) (ty0 := tyX12) G0 hw tyX12_ok nmX12 in_X12_set_X12 rfl h_253 (by decide) (by decide +kernel) rfl rfl rfl rfl (Nat.le_of_ble_eq_true rfl) rfl dX12_set_69 (fun f_256 H_257 locs h_258 x_259 hw => ?_)
            have hFK := hFK.put h_253 h_258 33 (by decide) rfl
            have hKP := hKP.upd hWF x_259 Tu (Or.inl (by decide))
            have hWF := wf_upd hWF h_258 x_259 (by rw [Tu]; exact ⟨v_216, v_217, v_218, v_219, v_220, v_221, v_222, v_223, v_224, v_225, v_226, v_227, y_228, v_229, v_215, v_255, v_232, v_233, y_234, v_235, y_236, v_237, rfl, ⟨by omega, by omega⟩, ⟨by omega, by omega⟩, ⟨by omega, by omega⟩, ⟨by omega, by omega⟩, ⟨by omega, by omega⟩, ⟨by omega, by omega⟩, ⟨by omega, by omega⟩, ⟨by omega, by omega⟩, ⟨by omega, by omega⟩, ⟨by omega, by omega⟩, ⟨by omega, by omega⟩, ⟨by omega, by omega⟩⟩)
            refine lv_aload_n G0.1 G0.2.1 dX12_set_72 rfl (lv_at hl 0 rfl) ?_
            refine lv_iload_n G0.1 G0.2.1 dX12_set_73 rfl (lv_at hl 1 rfl) ?_
            refine lv_iconst (v := 2) G0.1 G0.2.1 dX12_set_74 (by decide) ?_
            have jn_86 : ∀ (v_260 : Int32) (H_j86 : Heap) (locs : List Loc) (ls : Array Slot), py_W E (va_A (va_pl L f) s.heap.size) s L f_256 H_j86 locs → lv_has ls 3 [(0, .ref u), (1, .int a), (2, .int b)] → W p l e (headSpec w_X12_set ({ frames := 1, cells := 0, slots := 0, locals := 22 })).room s m ([.ref u, .int a, .int b] : List Value).toArray below meth c H_j86 locs 0 0 (MQ below (py_Qi E L f s.heap.size (fun r L1 f1 => (0 ≤ r.toInt ∧ r.toInt ≤ 1) ∧ (r.toInt ≠ 0 → ((a.toInt = 0 ∧ 0 ≤ b.toInt ∧ b.toInt ≤ 100) ∨ (a.toInt = 1 ∧ 0 ≤ b.toInt ∧ b.toInt ≤ 1) ∨ (a.toInt = 2 ∧ 0 ≤ b.toInt ∧ b.toInt ≤ 99))) ∧ (((a.toInt = 0 ∧ 0 ≤ b.toInt ∧ b.toInt ≤ 100) ∨ (a.toInt = 1 ∧ 0 ≤ b.toInt ∧ b.toInt ≤ 1) ∨ (a.toInt = 2 ∧ 0 ≤ b.toInt ∧ b.toInt ≤ 99)) → r.toInt ≠ 0) ∧ WF E G L1 f1 ∧ KP G [13] false f f1 ∧ FK [32, 33, 34] f f1 u)) ([.ref u, .int a, .int b] : List Value).toArray s 0 0 (va_A (va_pl L f) s.heap.size)) (F0 m 86 ls [.int v_260, .ref u]) := by
              intro v_260 H_j86 locs ls hw hl
              refine py_put (C := RX12) (T := TX12) (N := 54) (k := 34) (v := .int v_260) (fs' := [.int v_216, .ref (G.2 u 1), .int v_217, .int v_218, .int v_219, .int v_220, .ref (G.2 u 6), .ref (G.2 u 7), .ref (G.2 u 8), .ref (G.2 u 9), .ref (G.2 u 10), .ref (G.2 u 11), .ref (G.2 u 12), .int v_221, .int v_222, .ref (G.2 u 15), .ref (G.2 u 16), .ref (G.2 u 17), .ref (G.2 u 18), .int v_223, .int v_224, .ref (G.2 u 21), .ref (G.2 u 22), .ref (G.2 u 23), .int v_225, .int v_226, .ref (G.2 u 26), .ref (G.2 u 27), .ref (G.2 u 28), .int v_227, .long y_228, .int v_229, .int v_215, .int v_255, .int v_260, .ref (G.2 u 35), .ref (G.2 u 36), .ref (G.2 u 37), .ref (G.2 u 38), .ref (G.2 u 39), .ref (G.2 u 40), .ref (G.2 u 41), .ref (G.2 u 42), .int v_233, .ref (G.2 u 44), .ref (G.2 u 45), .ref (G.2 u 46), .ref (G.2 u 47), .long y_234, .ref (G.2 u 49), .ref (G.2 u 50), .int v_235, .long y_236, .int v_237]) (ty0 := tyX12) G0 hw tyX12_ok nmX12 in_X12_set_X12 rfl h_258 (by decide) (by decide +kernel) rfl rfl rfl rfl (Nat.le_of_ble_eq_true rfl) rfl dX12_set_86 (fun f_261 H_262 locs h_263 x_264 hw => ?_)
              have hFK := hFK.put h_258 h_263 34 (by decide) rfl
              have hKP := hKP.upd hWF x_264 Tu (Or.inl (by decide))
              have hWF := wf_upd hWF h_263 x_264 (by rw [Tu]; exact ⟨v_216, v_217, v_218, v_219, v_220, v_221, v_222, v_223, v_224, v_225, v_226, v_227, y_228, v_229, v_215, v_255, v_260, v_233, y_234, v_235, y_236, v_237, rfl, ⟨by omega, by omega⟩, ⟨by omega, by omega⟩, ⟨by omega, by omega⟩, ⟨by omega, by omega⟩, ⟨by omega, by omega⟩, ⟨by omega, by omega⟩, ⟨by omega, by omega⟩, ⟨by omega, by omega⟩, ⟨by omega, by omega⟩, ⟨by omega, by omega⟩, ⟨by omega, by omega⟩, ⟨by omega, by omega⟩⟩)
              refine lv_iconst (v := 1) G0.1 G0.2.1 dX12_set_89 (by decide) ?_
              exact py_iret G0 hr rfl hlk hw ⟨⟨by omega, by omega⟩, (by first | omega | (intro q; omega)), (by first | omega | (intro q; omega)), hWF, hKP, hFK⟩ dX12_set_90
            refine lv_icmp_ne (tgt := 82) G0.1 G0.2.1 dX12_set_75 (by decide) (fun c_265 => ?_) (fun c_265 => ?_)
            · skip
              have tc_265 := ti_ne c_265
              refine lv_aload_n G0.1 G0.2.1 dX12_set_82 rfl (lv_at hl 0 rfl) ?_
              refine py_get (C := RX12) (T := TX12) (N := 54) (k := 34) (v := .int v_232) G0 hw in_X12_set_X12 rfl h_258 (by decide) (by decide +kernel) rfl dX12_set_83 ?_
              exact jn_86 v_232 _ _ ls hw (lv_sub hl [0, 1, 2] rfl)
            · skip
              have tc_265 := ti_eq c_265
              refine lv_iload_n G0.1 G0.2.1 dX12_set_78 rfl (lv_at hl 2 rfl) ?_
              refine lv_goto (tgt := 86) G0.1 G0.2.1 dX12_set_79 (by decide) ?_
              exact jn_86 b _ _ ls hw (lv_sub hl [0, 1, 2] rfl)
          refine lv_icmp_ne (tgt := 65) G0.1 G0.2.1 dX12_set_58 (by decide) (fun c_266 => ?_) (fun c_266 => ?_)
          · skip
            have tc_266 := ti_ne c_266
            refine lv_aload_n G0.1 G0.2.1 dX12_set_65 rfl (lv_at hl 0 rfl) ?_
            refine py_get (C := RX12) (T := TX12) (N := 54) (k := 33) (v := .int v_231) G0 hw in_X12_set_X12 rfl h_253 (by decide) (by decide +kernel) rfl dX12_set_66 ?_
            exact jn_69 v_231 _ _ ls hw (lv_sub hl [0, 1, 2] rfl)
          · skip
            have tc_266 := ti_eq c_266
            refine lv_iload_n G0.1 G0.2.1 dX12_set_61 rfl (lv_at hl 2 rfl) ?_
            refine lv_goto (tgt := 69) G0.1 G0.2.1 dX12_set_62 (by decide) ?_
            exact jn_69 b _ _ ls hw (lv_sub hl [0, 1, 2] rfl)
        refine lv_if_ne (tgt := 48) G0.1 G0.2.1 dX12_set_41 (by decide) (fun c_267 => ?_) (fun c_267 => ?_)
        · skip
          have tc_267 := ti_ne c_267
          refine lv_aload_n G0.1 G0.2.1 dX12_set_48 rfl (lv_at hl 0 rfl) ?_
          obtain ⟨v_268, v_269, v_270, v_271, v_272, v_273, v_274, v_275, v_276, v_277, v_278, v_279, y_280, v_281, v_282, v_283, v_284, v_285, y_286, v_287, y_288, v_289, hr_302, b_290, b_291, b_292, b_293, b_294, b_295, b_296, b_297, b_298, b_299, b_300, b_301⟩ := wg_12 hWF Tu
          refine py_get (C := RX12) (T := TX12) (N := 54) (k := 32) (v := .int v_282) G0 hw in_X12_set_X12 rfl hr_302 (by decide) (by decide +kernel) rfl dX12_set_49 ?_
          exact jn_52 v_282 _ _ ls hw (lv_sub hl [0, 1, 2] rfl)
        · skip
          have tc_267 := ti_eq c_267
          refine lv_iload_n G0.1 G0.2.1 dX12_set_44 rfl (lv_at hl 2 rfl) ?_
          refine lv_goto (tgt := 52) G0.1 G0.2.1 dX12_set_45 (by decide) ?_
          exact jn_52 b _ _ ls hw (lv_sub hl [0, 1, 2] rfl)
      · skip
        have tc_214 := ti_eq c_214
        clear en_211
        replace en_212 := en_212 (by omega)
        refine lv_iconst (v := 0) G0.1 G0.2.1 dX12_set_37 (by decide) ?_
        exact py_iret G0 hr rfl hlk hw ⟨⟨by omega, by omega⟩, (by first | omega | (intro q; omega)), (by first | omega | (intro q; omega)), hWF, hKP, hFK⟩ dX12_set_38
