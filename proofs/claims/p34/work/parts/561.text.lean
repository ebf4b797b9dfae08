theorem fo_kp {f f1 : py_F} {o : Nat} (e : f1 o = f o) : fo_v f1 o = fo_v f o ∧ fo_y f1 o = fo_y f o := by
  unfold fo_v fo_y
  rw [e]
  exact ⟨rfl, rfl⟩
theorem l22_up {G : wf_G} {g : Nat → Option Nat} {k d : Nat} (hc : ∀ i z : Nat, g i = some z → G.1 z = 4) (td : G.1 d = 4) : ∀ i z : Nat, va_up g k (some d) i = some z → G.1 z = 4 := by
  intro i z h
  by_cases e : i = k
  · subst e
    rw [va_up_self] at h
    cases h
    exact td
  · rw [va_up_ne _ _ e] at h
    exact hc i z h
theorem dX11_tellLaw_0 : decode cX11_tellLaw 0 = .ok (.aload_n 0, 1) := by decide +kernel
theorem dX11_tellLaw_1 : decode cX11_tellLaw 1 = .ok (.getfield 94, 3) := by decide +kernel
theorem dX11_tellLaw_4 : decode cX11_tellLaw 4 = .ok (.istore_n 1, 1) := by decide +kernel
theorem dX11_tellLaw_5 : decode cX11_tellLaw 5 = .ok (.aload_n 0, 1) := by decide +kernel
theorem dX11_tellLaw_6 : decode cX11_tellLaw 6 = .ok (.getfield 32, 3) := by decide +kernel
theorem dX11_tellLaw_9 : decode cX11_tellLaw 9 = .ok (.iload_n 1, 1) := by decide +kernel
theorem dX11_tellLaw_10 : decode cX11_tellLaw 10 = .ok (.aload_n 0, 1) := by decide +kernel
theorem dX11_tellLaw_11 : decode cX11_tellLaw 11 = .ok (.getfield 26, 3) := by decide +kernel
theorem dX11_tellLaw_14 : decode cX11_tellLaw 14 = .ok (.getfield 360, 3) := by decide +kernel
theorem dX11_tellLaw_17 : decode cX11_tellLaw 17 = .ok (.aastore, 1) := by decide +kernel
theorem dX11_tellLaw_18 : decode cX11_tellLaw 18 = .ok (.aload_n 0, 1) := by decide +kernel
theorem dX11_tellLaw_19 : decode cX11_tellLaw 19 = .ok (.getfield 26, 3) := by decide +kernel
theorem dX11_tellLaw_22 : decode cX11_tellLaw 22 = .ok (.new 30, 3) := by decide +kernel
theorem dX11_tellLaw_25 : decode cX11_tellLaw 25 = .ok (.dup, 1) := by decide +kernel
theorem dX11_tellLaw_26 : decode cX11_tellLaw 26 = .ok (.invokespecial 362, 3) := by decide +kernel
theorem dX11_tellLaw_29 : decode cX11_tellLaw 29 = .ok (.putfield 360, 3) := by decide +kernel
theorem dX11_tellLaw_32 : decode cX11_tellLaw 32 = .ok (.aload_n 0, 1) := by decide +kernel
theorem dX11_tellLaw_33 : decode cX11_tellLaw 33 = .ok (.iload_n 1, 1) := by decide +kernel
theorem dX11_tellLaw_34 : decode cX11_tellLaw 34 = .ok (.iconst 1, 1) := by decide +kernel
theorem dX11_tellLaw_35 : decode cX11_tellLaw 35 = .ok (.iadd, 1) := by decide +kernel
theorem dX11_tellLaw_36 : decode cX11_tellLaw 36 = .ok (.putfield 94, 3) := by decide +kernel
theorem dX11_tellLaw_39 : decode cX11_tellLaw 39 = .ok (.aload_n 0, 1) := by decide +kernel
theorem dX11_tellLaw_40 : decode cX11_tellLaw 40 = .ok (.getfield 10, 3) := by decide +kernel
theorem dX11_tellLaw_43 : decode cX11_tellLaw 43 = .ok (.iconst 0, 1) := by decide +kernel
theorem dX11_tellLaw_44 : decode cX11_tellLaw 44 = .ok (.putfield 109, 3) := by decide +kernel
theorem dX11_tellLaw_47 : decode cX11_tellLaw 47 = .ok (.iload_n 1, 1) := by decide +kernel
theorem dX11_tellLaw_48 : decode cX11_tellLaw 48 = .ok (.ireturn, 1) := by decide +kernel
theorem dX11_text_0 : decode cX11_text 0 = .ok (.iload_n 1, 1) := by decide +kernel
theorem dX11_text_1 : decode cX11_text 1 = .ok (.ifCond .ne 23, 3) := by decide +kernel
theorem dX11_text_4 : decode cX11_text 4 = .ok (.aload_n 0, 1) := by decide +kernel
theorem dX11_text_5 : decode cX11_text 5 = .ok (.getfield 19, 3) := by decide +kernel
theorem dX11_text_8 : decode cX11_text 8 = .ok (.aload_n 0, 1) := by decide +kernel
theorem dX11_text_9 : decode cX11_text 9 = .ok (.getfield 10, 3) := by decide +kernel
theorem dX11_text_12 : decode cX11_text 12 = .ok (.invokevirtual 116, 3) := by decide +kernel
theorem dX11_text_15 : decode cX11_text 15 = .ok (.iconst (-1), 1) := by decide +kernel
theorem dX11_text_16 : decode cX11_text 16 = .ok (.if_icmp .ne 8, 3) := by decide +kernel
theorem dX11_text_19 : decode cX11_text 19 = .ok (.aload_n 0, 1) := by decide +kernel
theorem dX11_text_20 : decode cX11_text 20 = .ok (.invokevirtual 121, 3) := by decide +kernel
theorem dX11_text_23 : decode cX11_text 23 = .ok (.ireturn, 1) := by decide +kernel
theorem dX11_text_24 : decode cX11_text 24 = .ok (.iload_n 1, 1) := by decide +kernel
theorem dX11_text_25 : decode cX11_text 25 = .ok (.iconst 1, 1) := by decide +kernel
theorem dX11_text_26 : decode cX11_text 26 = .ok (.if_icmp .ne 31, 3) := by decide +kernel
theorem dX11_text_29 : decode cX11_text 29 = .ok (.aload_n 0, 1) := by decide +kernel
theorem dX11_text_30 : decode cX11_text 30 = .ok (.getfield 94, 3) := by decide +kernel
theorem dX11_text_33 : decode cX11_text 33 = .ok (.iconst 4, 1) := by decide +kernel
theorem dX11_text_34 : decode cX11_text 34 = .ok (.if_icmp .ge 23, 3) := by decide +kernel
theorem dX11_text_37 : decode cX11_text 37 = .ok (.aload_n 0, 1) := by decide +kernel
theorem dX11_text_38 : decode cX11_text 38 = .ok (.getfield 26, 3) := by decide +kernel
theorem dX11_text_41 : decode cX11_text 41 = .ok (.aload_n 0, 1) := by decide +kernel
theorem dX11_text_42 : decode cX11_text 42 = .ok (.getfield 10, 3) := by decide +kernel
theorem dX11_text_45 : decode cX11_text 45 = .ok (.invokevirtual 120, 3) := by decide +kernel
theorem dX11_text_48 : decode cX11_text 48 = .ok (.iconst (-1), 1) := by decide +kernel
theorem dX11_text_49 : decode cX11_text 49 = .ok (.if_icmp .ne 8, 3) := by decide +kernel
theorem dX11_text_52 : decode cX11_text 52 = .ok (.aload_n 0, 1) := by decide +kernel
theorem dX11_text_53 : decode cX11_text 53 = .ok (.invokevirtual 125, 3) := by decide +kernel
theorem dX11_text_56 : decode cX11_text 56 = .ok (.ireturn, 1) := by decide +kernel
theorem dX11_text_57 : decode cX11_text 57 = .ok (.iconst (-1), 1) := by decide +kernel
theorem dX11_text_58 : decode cX11_text 58 = .ok (.ireturn, 1) := by decide +kernel
def w_X11_tellLaw : List Cond := .code yX11_tellLaw cX11_tellLaw 2 (some .int) :: ([Cond.fieldLink RX11 360 "HeadYear$LawReader" "draft" "LHeadYear$Law;", Cond.fieldLink RX11 94 "HeadYear" "lawCount" "I", Cond.fieldLink RX11 10 "HeadYear" "tape" "LHeadYear$Tape;", Cond.fieldLink RX11 109 "HeadYear$Tape" "length" "I", Cond.fieldLink RX11 32 "HeadYear" "laws" "[LHeadYear$Law;", Cond.fieldLink RX11 26 "HeadYear" "lawReader" "LHeadYear$LawReader;", Cond.classLink RX11 30 RX3, Cond.instantiable RX3 3, Cond.initialized RX3, Cond.instanceMethod yX3_init] ++ (u_ws RX4 TX4 1 ++ (u_ws RX11 TX11 16 ++ (u_ws RX8 TX8 4 ++ (u_ws RX3 TX3 3 ++ (w_X3_init ++ ([])))))))
theorem in_X11_tellLaw_X4 : ∀ w ∈ u_ws RX4 TX4 1, w ∈ w_X11_tellLaw := fun _ h => List.mem_cons_of_mem _ (List.mem_append_right _ (List.mem_append_left _ h))
theorem in_X11_tellLaw_X11 : ∀ w ∈ u_ws RX11 TX11 16, w ∈ w_X11_tellLaw := fun _ h => List.mem_cons_of_mem _ (List.mem_append_right _ (List.mem_append_right _ (List.mem_append_left _ h)))
theorem in_X11_tellLaw_X8 : ∀ w ∈ u_ws RX8 TX8 4, w ∈ w_X11_tellLaw := fun _ h => List.mem_cons_of_mem _ (List.mem_append_right _ (List.mem_append_right _ (List.mem_append_right _ (List.mem_append_left _ h))))
theorem in_X11_tellLaw_X3 : ∀ w ∈ u_ws RX3 TX3 3, w ∈ w_X11_tellLaw := fun _ h => List.mem_cons_of_mem _ (List.mem_append_right _ (List.mem_append_right _ (List.mem_append_right _ (List.mem_append_right _ (List.mem_append_left _ h)))))
theorem gg_X11_tellLaw_X3_init : GoodIn w_X11_tellLaw w_X3_init := goodIn_sub (fun _ h => List.mem_cons_of_mem _ (List.mem_append_right _ (List.mem_append_right _ (List.mem_append_right _ (List.mem_append_right _ (List.mem_append_right _ (List.mem_append_left _ h))))))) (by decide +kernel)
theorem g_X11_tellLaw_X3_init_362 : GoodIn w_X11_tellLaw w_X3_init := gg_X11_tellLaw_X3_init
set_option maxHeartbeats 4000000 in
set_option maxRecDepth 100000 in
theorem tl_tail {p : Program} {l : Launch} {e : Env} {R : Room} {s : State} {m : MethodId} {args : Array Value} {below : List Frame} {meth : Method} {c : Code} {H : Heap} {locs : List Loc} {cells slots : Nat} {Q : State → Prop} (G0 : CallFix p m c cX11_tellLaw 2 s args w_X11_tellLaw RX11) {E : py_E} {G : wf_G} {L : List Nat} {f : py_F} {A : Nat → Prop} (hG : GT G) (hWF : WF E G L f) {x q lr : Nat} {n : Int32} (Tx : G.1 x = 12) (tq : G.1 q = 4) (tlr : G.1 lr = 5) (hGI : GI E G f x) (hn : hy_n f x = n.toInt) (hn3 : n.toInt ≤ 3) (hn0 : 0 ≤ n.toInt) (hLO : LO f (G.2 x 3) (n.toInt + 1)) (hw : py_W E A s L f H locs) {ls : Array Slot} (hl : lv_has ls 2 [(1, .int n), (0, .ref x)]) (kk : ∀ (L1 : List Nat) (f1 : py_F) (H1 : Heap) (locs1 : List Loc) (r : Int32), WF E G L1 f1 → KP G [22, 5, 12, 9] false f f1 → GI E G f1 x → (r.toInt = n.toInt ∧ tp_l f1 (G.2 x 0) = 0 ∧ hy_n f1 x = n.toInt + 1 ∧ hy_m f1 x = hy_m f x) → py_W E A s L1 f1 H1 locs1 → W p l e R s m args below meth c H1 locs1 cells slots Q (F0 m 48 ls [.int r])) : W p l e R s m args below meth c H locs cells slots Q (F0 m 29 ls [.ref q, .ref lr]) := by
  have kcm1 : (-1 : Int32).toInt = -1 := rfl
  have kc0 : (0 : Int32).toInt = 0 := rfl
  have kc1 : (1 : Int32).toInt = 1 := rfl
  have hKP : KP G [22, 5, 12, 9] false f f := KP.refl
  obtain ⟨t_1, t_2, t_3, t_4, t_5, t_6, t_7, t_8, t_9, t_10, t_11, t_12, t_13, tx_14, tx_15, tx_16, tx_17⟩ := wt_11 hG Tx
  obtain ⟨r_18, hr_20, ty_19⟩ := wg_4 hWF tlr
  refine py_put (C := RX4) (T := TX4) (N := 1) (k := 0) (v := .ref q) (fs' := [.ref q]) (ty0 := tyX4) G0 hw tyX4_ok nmX4 in_X11_tellLaw_X4 rfl hr_20 (by decide) (by decide +kernel) rfl rfl rfl rfl (Nat.le_of_ble_eq_true rfl) rfl dX11_tellLaw_29 (fun f_21 H_22 locs h_23 x_24 hw => ?_)
  have hLO := hLO.same (x_24 _ (hWF _ (by rw [(wt_11 hG Tx).2.2.2.1]; decide)).1 (wf_ne (wt_11 hG Tx).2.2.2.1 tlr (by decide))).2
  have hn := (hy_same (x_24 _ (hWF _ (by rw [Tx]; decide)).1 (wf_ne Tx tlr (by decide))).2).1.trans hn
  have hm5 := (hy_same (x_24 _ (hWF _ (by rw [Tx]; decide)).1 (wf_ne Tx tlr (by decide))).2).2
  have hGI := hGI.kp hG Tx (fo_ty hWF t_6) (rp_upd hG hWF x_24 hr_20.2 h_23.2 (rp_code hG tlr (by decide)) rfl : RP E G f f_21) (KP.refl.upd hWF x_24 tlr (Or.inl (by decide)) : KP G [5] false f f_21) (by decide)
  have hKP := hKP.upd hWF x_24 tlr (Or.inl (by decide))
  have hWF := wf_upd hWF h_23 x_24 (by rw [tlr]; exact ⟨q, rfl, tq⟩)
  refine lv_aload_n G0.1 G0.2.1 dX11_tellLaw_32 rfl (lv_at hl 1 rfl) ?_
  refine lv_iload_n G0.1 G0.2.1 dX11_tellLaw_33 rfl (lv_at hl 0 rfl) ?_
  refine lv_iconst (v := 1) G0.1 G0.2.1 dX11_tellLaw_34 (by decide) ?_
  refine lv_iadd G0.1 G0.2.1 dX11_tellLaw_35 ?_
  refine lv_topi (fun x_25 ex_25 => ?_)
  first | have tx_25 := ti_add ex_25 (by omega) (by omega) | skip
  obtain ⟨v_26, v_27, v_28, hr_32, b_29, b_30, b_31⟩ := wg_11 hWF Tx
  have tq_33 := hy_eq hr_32
  refine py_put (C := RX11) (T := TX11) (N := 16) (k := 13) (v := .int x_25) (fs' := [.ref (G.2 x 0), .ref (G.2 x 1), .ref (G.2 x 2), .ref (G.2 x 3), .ref (G.2 x 4), .ref (G.2 x 5), .ref (G.2 x 6), .ref (G.2 x 7), .ref (G.2 x 8), .ref (G.2 x 9), .ref (G.2 x 10), .ref (G.2 x 11), .ref (G.2 x 12), .int x_25, .int v_27, .int v_28]) (ty0 := tyX11) G0 hw tyX11_ok nmX11 in_X11_tellLaw_X11 rfl hr_32 (by decide) (by decide +kernel) rfl rfl rfl rfl (Nat.le_of_ble_eq_true rfl) rfl dX11_tellLaw_36 (fun f_34 H_35 locs h_36 x_37 hw => ?_)
  have hGI := hGI.cnt hG hWF Tx x_37 (rp_upd hG hWF x_37 hr_32.2 h_36.2 (rp_code hG Tx (by decide)) rfl : RP E G f_21 f_34) (by rw [show hy_n f_34 x = n.toInt + 1 by have z2 := hy_eq h_36; omega]; exact hLO) (by have z1 := hy_eq hr_32; have z2 := hy_eq h_36; omega)
  have hKP := hKP.upd hWF x_37 Tx (Or.inl (by decide))
  have hWF := wf_upd hWF h_36 x_37 (by rw [Tx]; exact ⟨x_25, v_27, v_28, rfl, ⟨by omega, by omega⟩, ⟨by omega, by omega⟩, ⟨by omega, by omega⟩⟩)
  have tq_38 := hy_eq h_36
  have h_23 := h_23.ext x_37 (py_ne_kind h_23 hr_32 (by decide))
  refine lv_aload_n G0.1 G0.2.1 dX11_tellLaw_39 rfl (lv_at hl 1 rfl) ?_
  refine py_get (C := RX11) (T := TX11) (N := 16) (k := 0) (v := .ref (G.2 x 0)) G0 hw in_X11_tellLaw_X11 rfl h_36 (by decide) (by decide +kernel) rfl dX11_tellLaw_40 ?_
  refine lv_iconst (v := 0) G0.1 G0.2.1 dX11_tellLaw_43 (by decide) ?_
  have t_39 := wt_8 hG t_1
  obtain ⟨v_40, v_41, v_42, hr_45, b_43, b_44⟩ := wg_8 hWF t_1
  have bv_42 := wf_free v_42
  have tq_46 := tp_eq hr_45
  refine py_put (C := RX8) (T := TX8) (N := 4) (k := 1) (v := .int 0) (fs' := [.ref (G.2 (G.2 x 0) 0), .int 0, .int v_41, .int v_42]) (ty0 := tyX8) G0 hw tyX8_ok nmX8 in_X11_tellLaw_X8 rfl hr_45 (by decide) (by decide +kernel) rfl rfl rfl rfl (Nat.le_of_ble_eq_true rfl) rfl dX11_tellLaw_44 (fun f_47 H_48 locs h_49 x_50 hw => ?_)
  have hGI := hGI.kp hG Tx (fo_ty hWF t_6) (rp_upd hG hWF x_50 hr_45.2 h_49.2 (rp_code hG t_1 (by decide)) rfl : RP E G f_34 f_47) (KP.refl.upd hWF x_50 t_1 (Or.inl (by decide)) : KP G [9] false f_34 f_47) (by decide)
  have hKP := hKP.upd hWF x_50 t_1 (Or.inl (by decide))
  have hWF := wf_upd hWF h_49 x_50 (by rw [t_1]; exact ⟨0, v_41, v_42, rfl, ⟨by omega, by omega⟩, ⟨by omega, by omega⟩⟩)
  have tq_51 := tp_eq h_49
  have h_36 := h_36.ext x_50 (py_ne_kind h_36 hr_45 (by decide))
  have tq_52 := hy_eq h_36
  have h_23 := h_23.ext x_50 (py_ne_kind h_23 hr_45 (by decide))
  refine lv_iload_n G0.1 G0.2.1 dX11_tellLaw_47 rfl (lv_at hl 0 rfl) ?_
  exact kk _ _ _ _ _ hWF hKP hGI (by omega) hw
set_option maxHeartbeats 4000000 in
set_option maxRecDepth 100000 in
theorem c_X11_tellLaw (l : Launch) (E : py_E) (G : wf_G) (L : List Nat) (f : py_F) (sz : Nat) (x : Nat) (hG : GT G) (hWF : WF E G L f) (Tx : G.1 x = 12) (hp0 : hy_n f x ≤ 3) (hq0 : GI E G f x) : Met l yX11_tellLaw w_X11_tellLaw ({ frames := 2, cells := 3, slots := 195, locals := 32 }) (py_Pc E [.ref x] L f sz) (py_Qi E L f sz (fun r L1 f1 => ∃ G1 : wf_G, GX G G1 ∧ GT G1 ∧ WF E G1 L1 f1 ∧ GI E G1 f1 x ∧ KP G [22, 5, 12, 9] false f f1 ∧ (r.toInt = hy_n f x ∧ tp_l f1 (G.2 x 0) = 0 ∧ hy_n f1 x = hy_n f x + 1 ∧ hy_m f1 x = hy_m f x))) 3 195 (va_A (va_pl L f) sz) := by
  refine Met.ofW (cc := cX11_tellLaw) (maxL := 2) (ret := (some .int)) (by decide) rfl ?_
  intro p e s m args below meth c s₁ B hml hv
  obtain ⟨rfl, rfl, hw⟩ := py_start hv
  have G0 : CallFix p m c cX11_tellLaw 2 s _ w_X11_tellLaw RX11 := ⟨B.exec, B.bytes, hml, findClass_of_methodNamed B.named, atoms_spec (ws := w_X11_tellLaw) B.pre⟩
  have hr := B.returns
  have hlk := B.notSynchronized
  have kcm1 : (-1 : Int32).toInt = -1 := rfl
  have kc0 : (0 : Int32).toInt = 0 := rfl
  have kc1 : (1 : Int32).toInt = 1 := rfl
  have hl := lv_entry ([.ref x]) (n := 2) (Nat.le_of_ble_eq_true rfl)
  rw [lg_entry_eq]
  generalize (lg_sl ([.ref x]) ++ List.replicate (2 - (lg_sl ([.ref x])).length) Slot.unset).toArray = ls at hl ⊢
  have hl : lv_has ls 2 [(0, .ref x)] := hl
  have hGI := hq0
  have hKP : KP G [22, 5, 12, 9] false f f := KP.refl
  obtain ⟨t_1, t_2, t_3, t_4, t_5, t_6, t_7, t_8, t_9, t_10, t_11, t_12, t_13, tx_14, tx_15, tx_16, tx_17⟩ := wt_11 hG Tx
  refine lv_aload_n G0.1 G0.2.1 dX11_tellLaw_0 rfl (lv_at hl 0 rfl) ?_
  obtain ⟨v_18, v_19, v_20, hr_24, b_21, b_22, b_23⟩ := wg_11 hWF Tx
  have tq_25 := hy_eq hr_24
  refine py_get (C := RX11) (T := TX11) (N := 16) (k := 13) (v := .int v_18) G0 hw in_X11_tellLaw_X11 rfl hr_24 (by decide) (by decide +kernel) rfl dX11_tellLaw_1 ?_
  refine lv_istore_n (lv' := [(1, .int v_18), (0, .ref x)]) G0.1 G0.2.1 dX11_tellLaw_4 rfl hl (by decide) rfl (fun ls hl => ?_)
  refine lv_aload_n G0.1 G0.2.1 dX11_tellLaw_5 rfl (lv_at hl 1 rfl) ?_
  refine py_get (C := RX11) (T := TX11) (N := 16) (k := 3) (v := .ref (G.2 x 3)) G0 hw in_X11_tellLaw_X11 rfl hr_24 (by decide) (by decide +kernel) rfl dX11_tellLaw_6 ?_
  refine lv_iload_n G0.1 G0.2.1 dX11_tellLaw_9 rfl (lv_at hl 0 rfl) ?_
  refine lv_aload_n G0.1 G0.2.1 dX11_tellLaw_10 rfl (lv_at hl 1 rfl) ?_
  refine py_get (C := RX11) (T := TX11) (N := 16) (k := 2) (v := .ref (G.2 x 2)) G0 hw in_X11_tellLaw_X11 rfl hr_24 (by decide) (by decide +kernel) rfl dX11_tellLaw_11 ?_
  obtain ⟨r_26, hr_28, ty_27⟩ := wg_4 hWF t_3
  refine py_get (C := RX4) (T := TX4) (N := 1) (k := 0) (v := .ref r_26) G0 hw in_X11_tellLaw_X4 rfl hr_28 (by decide) (by decide +kernel) rfl dX11_tellLaw_14 ?_
  obtain ⟨t_29, t_30⟩ := wt_3 hG ty_27
  obtain ⟨v_31, hr_33, b_32⟩ := wg_3 hWF ty_27
  obtain ⟨g_34, ha_35, hc_36⟩ := wf_l22 hWF t_4
  have rg_37 : vp_in v_18 4 := ti_in (by omega) (by omega)
  refine py_aast G0 hw ha_35 hr_33 rg_37 dX11_tellLaw_17 (fun f_38 H_39 locs h_40 x_41 hw => ?_)
  have hgl := hGI.laws hG hWF Tx x_41 ha_35 h_40 (by omega) (by omega)
  have hGI := hgl.1
  have hLO := hgl.2
  have hn1 := (hy_same (x_41 _ (hWF _ (by rw [Tx]; decide)).1 (wf_ne Tx t_4 (by decide))).2).1
  have hm1 := (hy_same (x_41 _ (hWF _ (by rw [Tx]; decide)).1 (wf_ne Tx t_4 (by decide))).2).2
  have hKP := hKP.upd hWF x_41 t_4 (Or.inl (by decide))
  have hWF := wf_upd hWF h_40 x_41 (by rw [t_4]; exact ⟨_, rfl, l22_up hc_36 ty_27⟩)
  refine lv_aload_n G0.1 G0.2.1 dX11_tellLaw_18 rfl (lv_at hl 1 rfl) ?_
  obtain ⟨v_42, v_43, v_44, hr_48, b_45, b_46, b_47⟩ := wg_11 hWF Tx
  have tq_49 := hy_eq hr_48
  refine py_get (C := RX11) (T := TX11) (N := 16) (k := 2) (v := .ref (G.2 x 2)) G0 hw in_X11_tellLaw_X11 rfl hr_48 (by decide) (by decide +kernel) rfl dX11_tellLaw_19 ?_
  refine py_new (C := RX3) (T := TX3) (N := 3) (ci := 3) (fs := [.null, .null, .int 0]) (ty0 := tyX3) G0 hw tyX3_ok in_X11_tellLaw_X3 rfl (by decide +kernel) (by decide +kernel) (by decide +kernel) (fun j hj => match j, hj with | 0, _ => rfl | 1, _ => rfl | 2, _ => rfl | n + 3, h => absurd h (by omega)) (Nat.le_of_ble_eq_true rfl) (Nat.le_of_ble_eq_true rfl) dX11_tellLaw_22 (fun q La fa Ha hq h1 x1 hw => ?_)
  refine lv_dup G0.1 G0.2.1 dX11_tellLaw_25 rfl ?_
  refine py_callv hw (va_runIN (As := []) (rest := [.ref q, .ref (G.2 x 2)]) G0 (c_X3_init l E La fa Ha.size q h1) ⟨va_cnB 0 G0.2.2.2.2 g_X11_tellLaw_X3_init_362 rfl rfl rfl (hw.1.2.2 (RX11, 362, yX3_init) (List.mem_of_getElem? (i := 11) rfl)) (G0.2.2.2.2 (Cond.initialized RX3) (by decide +kernel)) (by decide +kernel) ⟨(Nat.le_of_ble_eq_true rfl), (Nat.le_of_ble_eq_true rfl)⟩, rfl, G0.2.2.2.2 (Cond.instanceMethod yX3_init) (by decide +kernel)⟩ (py_preS hw) rfl rfl hl.1 rfl (lv_room (Nat.le_of_ble_eq_true rfl)) dX11_tellLaw_26 ⟨(Nat.le_of_ble_eq_true rfl), (Nat.le_of_ble_eq_true rfl)⟩) (fun Lb fb Hb locs hp hw => ?_)
  obtain ⟨co, st, hq2, hco, hst, nco, nst, ncs, x2⟩ := hp
  obtain ⟨G1, gx, hZ, tq, hall⟩ := newlaw_ty ⟨hG, hWF, hGI.1⟩ hq x1 hq2 hco hst nco nst ncs x2
  have e3 := (hall _ (hWF _ (by rw [(wt_11 hG Tx).2.2.2.1]; decide)).1).2
  have hn2 := (hy_same (hall x (hWF _ (by rw [Tx]; decide)).1).2).1
  have hm2 := (hy_same (hall x (hWF _ (by rw [Tx]; decide)).1).2).2
  have hLO : LO fb (G1.2 x 3) (v_18.toInt + 1) := by rw [(gx x (by rw [Tx]; decide)).2 3]; exact hLO.same e3
  have hKP := hKP.trans (kp_ofall (G := G) (ws := []) (own := false) hWF (fun b hb => (hall b hb).2)) (by decide) (by decide)
  have hGI := hGI.gx hG hWF Tx gx (fun b hb => (hall b (hWF b hb).1).2) hZ.2.2
  refine tl_tail G0 hZ.1 hZ.2.1 (gx.ty Tx (by decide)) tq (gx.ty t_3 (by decide)) hGI (by omega) (by omega) (by omega) hLO hw (lv_sub hl [0, 1] rfl) (fun L1 f1 H1 locs r hWF kp1 hGI hre hw => ?_)
  rw [(gx x (by rw [Tx]; decide)).2 0] at hre
  exact py_iret G0 hr rfl hlk hw ⟨G1, gx, hZ.1, hWF, hGI, hKP.trans (kp_gx gx kp1) (by decide) (by decide), by omega⟩ dX11_tellLaw_48

def w_X11_text : List Cond := .code yX11_text cX11_text 2 (some .int) :: ([Cond.fieldLink RX11 94 "HeadYear" "lawCount" "I", Cond.fieldLink RX11 26 "HeadYear" "lawReader" "LHeadYear$LawReader;", Cond.fieldLink RX11 10 "HeadYear" "tape" "LHeadYear$Tape;", Cond.methodLink RX11 120 yX4_faultOf, Cond.instanceMethod yX4_faultOf, Cond.selects RX4 yX4_faultOf yX4_faultOf, Cond.initialized RX4, Cond.methodLink RX11 125 yX11_tellLaw, Cond.instanceMethod yX11_tellLaw, Cond.selects RX11 yX11_tellLaw yX11_tellLaw, Cond.initialized RX11, Cond.fieldLink RX11 19 "HeadYear" "valleyReader" "LHeadYear$ValleyReader;", Cond.methodLink RX11 116 yX10_faultOf, Cond.instanceMethod yX10_faultOf, Cond.selects RX10 yX10_faultOf yX10_faultOf, Cond.initialized RX10, Cond.methodLink RX11 121 yX11_tellValley, Cond.instanceMethod yX11_tellValley, Cond.selects RX11 yX11_tellValley yX11_tellValley] ++ (u_ws RX11 TX11 16 ++ (w_X4_faultOf ++ (w_X11_tellLaw ++ (w_X10_faultOf ++ (w_X11_tellValley ++ ([])))))))
theorem in_X11_text_X11 : ∀ w ∈ u_ws RX11 TX11 16, w ∈ w_X11_text := fun _ h => List.mem_cons_of_mem _ (List.mem_append_right _ (List.mem_append_left _ h))
theorem gg_X11_text_X4_faultOf : GoodIn w_X11_text w_X4_faultOf := goodIn_sub (fun _ h => List.mem_cons_of_mem _ (List.mem_append_right _ (List.mem_append_right _ (List.mem_append_left _ h)))) (by decide +kernel)
theorem gg_X11_text_X11_tellLaw : GoodIn w_X11_text w_X11_tellLaw := goodIn_sub (fun _ h => List.mem_cons_of_mem _ (List.mem_append_right _ (List.mem_append_right _ (List.mem_append_right _ (List.mem_append_left _ h))))) (by decide +kernel)
theorem gg_X11_text_X10_faultOf : GoodIn w_X11_text w_X10_faultOf := goodIn_sub (fun _ h => List.mem_cons_of_mem _ (List.mem_append_right _ (List.mem_append_right _ (List.mem_append_right _ (List.mem_append_right _ (List.mem_append_left _ h)))))) (by decide +kernel)
theorem gg_X11_text_X11_tellValley : GoodIn w_X11_text w_X11_tellValley := goodIn_sub (fun _ h => List.mem_cons_of_mem _ (List.mem_append_right _ (List.mem_append_right _ (List.mem_append_right _ (List.mem_append_right _ (List.mem_append_right _ (List.mem_append_left _ h))))))) (by decide +kernel)
theorem g_X11_text_X10_faultOf_116 : GoodIn w_X11_text (wsV RX11 116 RX10 yX10_faultOf w_X10_faultOf) := goodIn_app (goodIn_of _ (by decide +kernel)) gg_X11_text_X10_faultOf
theorem g_X11_text_X11_tellLaw_125 : GoodIn w_X11_text (wsV RX11 125 RX11 yX11_tellLaw w_X11_tellLaw) := goodIn_app (goodIn_of _ (by decide +kernel)) gg_X11_text_X11_tellLaw
theorem g_X11_text_X11_tellValley_121 : GoodIn w_X11_text (wsV RX11 121 RX11 yX11_tellValley w_X11_tellValley) := goodIn_app (goodIn_of _ (by decide +kernel)) gg_X11_text_X11_tellValley
theorem g_X11_text_X4_faultOf_120 : GoodIn w_X11_text (wsV RX11 120 RX4 yX4_faultOf w_X4_faultOf) := goodIn_app (goodIn_of _ (by decide +kernel)) gg_X11_text_X4_faultOf
set_option maxHeartbeats 4000000 in
set_option maxRecDepth 100000 in
theorem c_X11_text (l : Launch) (E : py_E) (G : wf_G) (L : List Nat) (f : py_F) (sz : Nat) (x : Nat) (a : Int32) (gb : rs_B) (nb : Int) (hG : GT G) (hWF : WF E G L f) (Tx : G.1 x = 12) (hp0 : tp_l f (G.2 x 0) = nb ∧ 0 ≤ nb ∧ nb ≤ 160) (hq0 : GI E G f x) (hq1 : gfn f (G.2 (G.2 x 0) 0) = gb) (hq2 : rs_tp gb nb) : Met l yX11_text w_X11_text ({ frames := 62, cells := 3, slots := 195, locals := 3315 }) (py_Pc E [.ref x, .int a] L f sz) (py_Qi E L f sz (fun r L1 f1 => ∃ G1 : wf_G, GX G G1 ∧ GT G1 ∧ WF E G1 L1 f1 ∧ GI E G1 f1 x ∧ KP G [9, 36, 10, 24, 80, 27, 25, 26, 4, 5, 20, 21, 22, 11, 3, 37, 30, 2, 1, 12] true f f1 ∧ (TX gb nb (hy_n f x) a.toInt r.toInt (tp_l f1 (G.2 x 0)) (hy_n f1 x)) ∧ ((a.toInt = 0 ∧ r.toInt ≠ -1 ∧ fo_y f1 (G.2 x 5) = 0 ∧ 2 ≤ fv_l f1 (G.2 x 5) ∧ hy_m f1 x = 0) ∨ ((a.toInt ≠ 0 ∨ r.toInt = -1) ∧ fv_l f1 (G.2 x 5) = fv_l f (G.2 x 5) ∧ fo_y f1 (G.2 x 5) = fo_y f (G.2 x 5) ∧ fo_y f1 (G.2 x 7) = fo_y f (G.2 x 7) ∧ hy_m f1 x = hy_m f x)))) 3 195 (va_A (va_pl L f) sz) := by
  refine Met.ofW (cc := cX11_text) (maxL := 2) (ret := (some .int)) (by decide) rfl ?_
  intro p e s m args below meth c s₁ B hml hv
  obtain ⟨rfl, rfl, hw⟩ := py_start hv
  have G0 : CallFix p m c cX11_text 2 s _ w_X11_text RX11 := ⟨B.exec, B.bytes, hml, findClass_of_methodNamed B.named, atoms_spec (ws := w_X11_text) B.pre⟩
  have hr := B.returns
  have hlk := B.notSynchronized
  have kcm1 : (-1 : Int32).toInt = -1 := rfl
  have kc0 : (0 : Int32).toInt = 0 := rfl
  have kc1 : (1 : Int32).toInt = 1 := rfl
  have kc4 : (4 : Int32).toInt = 4 := rfl
  have hl := lv_entry ([.ref x, .int a]) (n := 2) (Nat.le_of_ble_eq_true rfl)
  rw [lg_entry_eq]
  generalize (lg_sl ([.ref x, .int a]) ++ List.replicate (2 - (lg_sl ([.ref x, .int a])).length) Slot.unset).toArray = ls at hl ⊢
  have hl : lv_has ls 2 [(0, .ref x), (1, .int a)] := hl
  have hGI := hq0
  have hKP : KP G [9, 36, 10, 24, 80, 27, 25, 26, 4, 5, 20, 21, 22, 11, 3, 37, 30, 2, 1, 12] true f f := KP.refl
  have hTB := hq1
  have hTP := hq2
  obtain ⟨t_1, t_2, t_3, t_4, t_5, t_6, t_7, t_8, t_9, t_10, t_11, t_12, t_13, tx_14, tx_15, tx_16, tx_17⟩ := wt_11 hG Tx
  refine lv_iload_n G0.1 G0.2.1 dX11_text_0 rfl (lv_at hl 1 rfl) ?_
  refine lv_if_ne (tgt := 24) G0.1 G0.2.1 dX11_text_1 (by decide) (fun c_18 => ?_) (fun c_18 => ?_)
  · skip
    have tc_18 := ti_ne c_18
    refine lv_iload_n G0.1 G0.2.1 dX11_text_24 rfl (lv_at hl 1 rfl) ?_
    refine lv_iconst (v := 1) G0.1 G0.2.1 dX11_text_25 (by decide) ?_
    refine lv_icmp_ne (tgt := 57) G0.1 G0.2.1 dX11_text_26 (by decide) (fun c_19 => ?_) (fun c_19 => ?_)
    · skip
      have tc_19 := ti_ne c_19
      refine lv_iconst (v := (-1)) G0.1 G0.2.1 dX11_text_57 (by decide) ?_
      refine W.widen (k := 3) (n := 195) (Nat.le_of_ble_eq_true rfl) (Nat.le_of_ble_eq_true rfl) ?_
      exact py_iret G0 hr rfl hlk hw ⟨G, GX.refl, hG, hWF, hGI, hKP, (by first | exact Or.inr (Or.inr (by omega)) | exact Or.inr (Or.inl ⟨by omega, by omega⟩)), (Or.inr ⟨by omega, by omega, by omega, by omega, by omega⟩)⟩ dX11_text_58
    · skip
      have tc_19 := ti_eq c_19
      refine lv_aload_n G0.1 G0.2.1 dX11_text_29 rfl (lv_at hl 0 rfl) ?_
      obtain ⟨v_20, v_21, v_22, hr_26, b_23, b_24, b_25⟩ := wg_11 hWF Tx
      have tq_27 := hy_eq hr_26
      refine py_get (C := RX11) (T := TX11) (N := 16) (k := 13) (v := .int v_20) G0 hw in_X11_text_X11 rfl hr_26 (by decide) (by decide +kernel) rfl dX11_text_30 ?_
      refine lv_iconst (v := 4) G0.1 G0.2.1 dX11_text_33 (by decide) ?_
      refine lv_icmp_ge (tgt := 57) G0.1 G0.2.1 dX11_text_34 (by decide) (fun c_28 => ?_) (fun c_28 => ?_)
      · skip
        have tc_28 := ti_le c_28
        refine lv_iconst (v := (-1)) G0.1 G0.2.1 dX11_text_57 (by decide) ?_
        refine W.widen (k := 3) (n := 195) (Nat.le_of_ble_eq_true rfl) (Nat.le_of_ble_eq_true rfl) ?_
        exact py_iret G0 hr rfl hlk hw ⟨G, GX.refl, hG, hWF, hGI, hKP, (by first | exact Or.inr (Or.inr (by omega)) | exact Or.inr (Or.inl ⟨by omega, by omega⟩)), (Or.inr ⟨by omega, by omega, by omega, by omega, by omega⟩)⟩ dX11_text_58
      · skip
        have tc_28 := ti_nle c_28
        refine lv_aload_n G0.1 G0.2.1 dX11_text_37 rfl (lv_at hl 0 rfl) ?_
        refine py_get (C := RX11) (T := TX11) (N := 16) (k := 2) (v := .ref (G.2 x 2)) G0 hw in_X11_text_X11 rfl hr_26 (by decide) (by decide +kernel) rfl dX11_text_38 ?_
        refine lv_aload_n G0.1 G0.2.1 dX11_text_41 rfl (lv_at hl 0 rfl) ?_
        refine py_get (C := RX11) (T := TX11) (N := 16) (k := 0) (v := .ref (G.2 x 0)) G0 hw in_X11_text_X11 rfl hr_26 (by decide) (by decide +kernel) rfl dX11_text_42 ?_
        obtain ⟨r_29, hr_31, ty_30⟩ := wg_4 hWF t_3
        refine py_calli hw (va_runV (As := [.ref (G.2 x 0)]) (rest := []) G0 (c_X4_faultOf l E G L f s.heap.size (G.2 x 2) (G.2 x 0) gb nb hG hWF t_3 t_1 (show tp_l f (G.2 x 0) = nb by omega) (show 0 ≤ nb ∧ nb ≤ 160 by omega) hTB hTP.tb) (cwV 1 G0.2.2.2.2 g_X11_text_X4_faultOf_120 rfl rfl rfl (by decide +kernel) ⟨(Nat.le_of_ble_eq_true rfl), (Nat.le_of_ble_eq_true rfl)⟩) (py_preV hw (C := RX4) (T := TX4) (N := 1) rfl hr_31) rfl rfl hl.1 rfl (lv_room (Nat.le_of_ble_eq_true rfl)) dX11_text_45 ⟨(Nat.le_of_ble_eq_true rfl), (Nat.le_of_ble_eq_true rfl)⟩) (fun r_36 L_32 f_33 H_34 locs hp_35 hw => ?_)
        have ht_42 := fo_ty hWF t_6
        have ht_43 := fo_ty hWF t_6
        have ht_44 := fo_ty hWF t_8
        obtain ⟨b_39, en_37, en_38, hWF, hq_40, kp_41⟩ := hp_35
        have hTB := (gfn_kp (kp_f kp_41 (wt_8 hG (wt_11 hG Tx).1) (by decide) (by decide) (fun _ => by decide))).trans hTB
        have hGI := hGI.kp hG Tx ht_42 hq_40 kp_41 (by decide)
        have fq_45 := fv_one hq_40 kp_41 (by decide) ht_43 t_6
        have fq_46 := fv_one hq_40 kp_41 (by decide) ht_44 t_8
        have hKP := hKP.trans kp_41 (by decide) (by decide)
        have hr_26 := kp_at kp_41 hWF Tx (by decide) (by decide) (by decide) hr_26
        have tq_47 := hy_eq hr_26
        have hr_31 := kp_at kp_41 hWF t_3 (by decide) (by decide) (by decide) hr_31
        refine lv_iconst (v := (-1)) G0.1 G0.2.1 dX11_text_48 (by decide) ?_
        refine lv_icmp_ne (tgt := 57) G0.1 G0.2.1 dX11_text_49 (by decide) (fun c_48 => ?_) (fun c_48 => ?_)
        · skip
          have tc_48 := ti_ne c_48
          refine lv_iconst (v := (-1)) G0.1 G0.2.1 dX11_text_57 (by decide) ?_
          refine W.widen (k := 3) (n := 195) (Nat.le_of_ble_eq_true rfl) (Nat.le_of_ble_eq_true rfl) ?_
          exact py_iret G0 hr rfl hlk hw ⟨G, GX.refl, hG, hWF, hGI, hKP, Or.inr (Or.inl ⟨by omega, by omega⟩), (Or.inr ⟨by omega, by omega, by omega, by omega, by omega⟩)⟩ dX11_text_58
        · skip
          have tc_48 := ti_eq c_48
          refine lv_aload_n G0.1 G0.2.1 dX11_text_52 rfl (lv_at hl 0 rfl) ?_
          refine py_calli hw (va_runV (As := []) (rest := []) G0 (c_X11_tellLaw l E G L_32 f_33 H_34.size x hG hWF Tx (show hy_n f_33 x ≤ 3 by omega) hGI) (cwV 0 G0.2.2.2.2 g_X11_text_X11_tellLaw_125 rfl rfl rfl (by decide +kernel) ⟨(Nat.le_of_ble_eq_true rfl), (Nat.le_of_ble_eq_true rfl)⟩) (py_preV hw (C := RX11) (T := TX11) (N := 16) rfl hr_26) rfl rfl hl.1 rfl (lv_room (Nat.le_of_ble_eq_true rfl)) dX11_text_53 ⟨(Nat.le_of_ble_eq_true rfl), (Nat.le_of_ble_eq_true rfl)⟩) (fun r_53 L_49 f_50 H_51 locs hp_52 hw => ?_)
          obtain ⟨G1, gx, hG1, hWF1, hGI1, kp1, en_54⟩ := hp_52
          have e5 := kp_f kp1 t_6 (by decide) (by decide) (fun _ => by decide)
          have e10 := kp_f kp1 (fo_ty hWF t_6) (by decide) (by decide) (fun _ => by decide)
          have e7 := kp_f kp1 t_8 (by decide) (by decide) (fun _ => by decide)
          have ey5 := fo_kp e5
          have ey7 := fo_kp e7
          have ev5 := (fv_v ey5.1 e10).1
          have br_53 := wf_free r_53
          exact py_iret G0 hr rfl hlk hw ⟨G1, gx, hG1, hWF1, hGI1, hKP.trans kp1 (by decide) (by decide), Or.inr (Or.inl ⟨by omega, by omega⟩), (Or.inr ⟨Or.inl (by omega), by omega, by omega, by omega, by omega⟩)⟩ dX11_text_56
  · skip
    have tc_18 := ti_eq c_18
    refine lv_aload_n G0.1 G0.2.1 dX11_text_4 rfl (lv_at hl 0 rfl) ?_
    obtain ⟨v_55, v_56, v_57, hr_61, b_58, b_59, b_60⟩ := wg_11 hWF Tx
    have tq_62 := hy_eq hr_61
    refine py_get (C := RX11) (T := TX11) (N := 16) (k := 1) (v := .ref (G.2 x 1)) G0 hw in_X11_text_X11 rfl hr_61 (by decide) (by decide +kernel) rfl dX11_text_5 ?_
    refine lv_aload_n G0.1 G0.2.1 dX11_text_8 rfl (lv_at hl 0 rfl) ?_
    refine py_get (C := RX11) (T := TX11) (N := 16) (k := 0) (v := .ref (G.2 x 0)) G0 hw in_X11_text_X11 rfl hr_61 (by decide) (by decide +kernel) rfl dX11_text_9 ?_
    have t_63 := wt_10 hG t_2
    obtain ⟨r_64, hr_66, ty_65⟩ := wg_10 hWF t_2
    have tq_67 := rd_eq hr_66
    refine py_calli hw (va_runV (As := [.ref (G.2 x 0)]) (rest := []) G0 (c_X10_faultOf l E G L f s.heap.size (G.2 x 1) (G.2 x 0) gb nb r_64 hG hWF t_2 t_1 (show tp_l f (G.2 x 0) = nb by omega) (show 0 ≤ nb ∧ nb ≤ 160 by omega) ty_65 (dr_eq hr_66) hTB hTP.tb) (cwV 1 G0.2.2.2.2 g_X11_text_X10_faultOf_116 rfl rfl rfl (by decide +kernel) ⟨(Nat.le_of_ble_eq_true rfl), (Nat.le_of_ble_eq_true rfl)⟩) (py_preV hw (C := RX10) (T := TX10) (N := 2) rfl hr_66) rfl rfl hl.1 rfl (lv_room (Nat.le_of_ble_eq_true rfl)) dX11_text_12 ⟨(Nat.le_of_ble_eq_true rfl), (Nat.le_of_ble_eq_true rfl)⟩) (fun r_72 L_68 f_69 H_70 locs hp_71 hw => ?_)
    have ht_81 := fo_ty hWF t_6
    have ht_82 := fo_ty hWF t_6
    have ht_83 := fo_ty hWF t_8
    obtain ⟨b_77, en_73, en_74, en_75, en_76, hWF, hq_78, kp_79, vo_80⟩ := hp_71
    have hTB := (gfn_kp (kp_f kp_79 (wt_8 hG (wt_11 hG Tx).1) (by decide) (by decide) (fun _ => by decide))).trans hTB
    have hGIo := hGI
    have hGI := hGI.vo hG Tx ht_81 hq_78 kp_79 vo_80 (by decide)
    have hKP := hKP.trans kp_79 (by decide) (by decide)
    have hr_61 := kp_at kp_79 hWF Tx (by decide) (by decide) (by decide) hr_61
    have tq_84 := hy_eq hr_61
    have hr_66 := kp_at kp_79 hWF t_2 (by decide) (by decide) (by decide) hr_66
    have tq_85 := rd_eq hr_66
    have fqv := fv_v (hq_78 _ t_6).2.1 (vo_80 _ ht_81 hGIo.2.1.1)
    have fqw := (hq_78 _ t_6).2
    have fqx := (hq_78 _ t_8).2
    refine lv_iconst (v := (-1)) G0.1 G0.2.1 dX11_text_15 (by decide) ?_
    refine lv_icmp_ne (tgt := 24) G0.1 G0.2.1 dX11_text_16 (by decide) (fun c_86 => ?_) (fun c_86 => ?_)
    · skip
      have tc_86 := ti_ne c_86
      refine lv_iload_n G0.1 G0.2.1 dX11_text_24 rfl (lv_at hl 1 rfl) ?_
      refine lv_iconst (v := 1) G0.1 G0.2.1 dX11_text_25 (by decide) ?_
      refine lv_icmp_ne (tgt := 57) G0.1 G0.2.1 dX11_text_26 (by decide) (fun c_87 => ?_) (fun c_87 => ?_)
      · skip
        have tc_87 := ti_ne c_87
        refine lv_iconst (v := (-1)) G0.1 G0.2.1 dX11_text_57 (by decide) ?_
        refine W.widen (k := 3) (n := 195) (Nat.le_of_ble_eq_true rfl) (Nat.le_of_ble_eq_true rfl) ?_
        exact py_iret G0 hr rfl hlk hw ⟨G, GX.refl, hG, hWF, hGI, hKP, Or.inl ⟨by omega, _, en_75, by omega⟩, (Or.inr ⟨by omega, by omega, by omega, by omega, by omega⟩)⟩ dX11_text_58
      · skip
        have tc_87 := ti_eq c_87
        refine lv_aload_n G0.1 G0.2.1 dX11_text_29 rfl (lv_at hl 0 rfl) ?_
        refine py_get (C := RX11) (T := TX11) (N := 16) (k := 13) (v := .int v_55) G0 hw in_X11_text_X11 rfl hr_61 (by decide) (by decide +kernel) rfl dX11_text_30 ?_
        refine lv_iconst (v := 4) G0.1 G0.2.1 dX11_text_33 (by decide) ?_
        refine lv_icmp_ge (tgt := 57) G0.1 G0.2.1 dX11_text_34 (by decide) (fun c_88 => ?_) (fun c_88 => ?_)
        · skip
          have tc_88 := ti_le c_88
          refine lv_iconst (v := (-1)) G0.1 G0.2.1 dX11_text_57 (by decide) ?_
          refine W.widen (k := 3) (n := 195) (Nat.le_of_ble_eq_true rfl) (Nat.le_of_ble_eq_true rfl) ?_
          exact py_iret G0 hr rfl hlk hw ⟨G, GX.refl, hG, hWF, hGI, hKP, Or.inl ⟨by omega, _, en_75, by omega⟩, (Or.inr ⟨by omega, by omega, by omega, by omega, by omega⟩)⟩ dX11_text_58
        · skip
          have tc_88 := ti_nle c_88
          refine lv_aload_n G0.1 G0.2.1 dX11_text_37 rfl (lv_at hl 0 rfl) ?_
          refine py_get (C := RX11) (T := TX11) (N := 16) (k := 2) (v := .ref (G.2 x 2)) G0 hw in_X11_text_X11 rfl hr_61 (by decide) (by decide +kernel) rfl dX11_text_38 ?_
          refine lv_aload_n G0.1 G0.2.1 dX11_text_41 rfl (lv_at hl 0 rfl) ?_
          refine py_get (C := RX11) (T := TX11) (N := 16) (k := 0) (v := .ref (G.2 x 0)) G0 hw in_X11_text_X11 rfl hr_61 (by decide) (by decide +kernel) rfl dX11_text_42 ?_
          obtain ⟨r_89, hr_91, ty_90⟩ := wg_4 hWF t_3
          refine py_calli hw (va_runV (As := [.ref (G.2 x 0)]) (rest := []) G0 (c_X4_faultOf l E G L_68 f_69 H_70.size (G.2 x 2) (G.2 x 0) gb nb hG hWF t_3 t_1 (show tp_l f_69 (G.2 x 0) = nb by omega) (show 0 ≤ nb ∧ nb ≤ 160 by omega) hTB hTP.tb) (cwV 1 G0.2.2.2.2 g_X11_text_X4_faultOf_120 rfl rfl rfl (by decide +kernel) ⟨(Nat.le_of_ble_eq_true rfl), (Nat.le_of_ble_eq_true rfl)⟩) (py_preV hw (C := RX4) (T := TX4) (N := 1) rfl hr_91) rfl rfl hl.1 rfl (lv_room (Nat.le_of_ble_eq_true rfl)) dX11_text_45 ⟨(Nat.le_of_ble_eq_true rfl), (Nat.le_of_ble_eq_true rfl)⟩) (fun r_96 L_92 f_93 H_94 locs hp_95 hw => ?_)
          have ht_102 := fo_ty hWF t_6
          have ht_103 := fo_ty hWF t_6
          have ht_104 := fo_ty hWF t_8
          obtain ⟨b_99, en_97, en_98, hWF, hq_100, kp_101⟩ := hp_95
          have hTB := (gfn_kp (kp_f kp_101 (wt_8 hG (wt_11 hG Tx).1) (by decide) (by decide) (fun _ => by decide))).trans hTB
          have hGI := hGI.kp hG Tx ht_102 hq_100 kp_101 (by decide)
          have fq_105 := fv_one hq_100 kp_101 (by decide) ht_103 t_6
          have fq_106 := fv_one hq_100 kp_101 (by decide) ht_104 t_8
          have hKP := hKP.trans kp_101 (by decide) (by decide)
          have hr_61 := kp_at kp_101 hWF Tx (by decide) (by decide) (by decide) hr_61
          have tq_107 := hy_eq hr_61
          have hr_66 := kp_at kp_101 hWF t_2 (by decide) (by decide) (by decide) hr_66
          have tq_108 := rd_eq hr_66
          have hr_91 := kp_at kp_101 hWF t_3 (by decide) (by decide) (by decide) hr_91
          refine lv_iconst (v := (-1)) G0.1 G0.2.1 dX11_text_48 (by decide) ?_
          refine lv_icmp_ne (tgt := 57) G0.1 G0.2.1 dX11_text_49 (by decide) (fun c_109 => ?_) (fun c_109 => ?_)
          · skip
            have tc_109 := ti_ne c_109
            refine lv_iconst (v := (-1)) G0.1 G0.2.1 dX11_text_57 (by decide) ?_
            refine W.widen (k := 3) (n := 195) (Nat.le_of_ble_eq_true rfl) (Nat.le_of_ble_eq_true rfl) ?_
            exact py_iret G0 hr rfl hlk hw ⟨G, GX.refl, hG, hWF, hGI, hKP, Or.inr (Or.inl ⟨by omega, by omega⟩), (Or.inr ⟨by omega, by omega, by omega, by omega, by omega⟩)⟩ dX11_text_58
          · skip
            have tc_109 := ti_eq c_109
            refine lv_aload_n G0.1 G0.2.1 dX11_text_52 rfl (lv_at hl 0 rfl) ?_
            refine py_calli hw (va_runV (As := []) (rest := []) G0 (c_X11_tellLaw l E G L_92 f_93 H_94.size x hG hWF Tx (show hy_n f_93 x ≤ 3 by omega) hGI) (cwV 0 G0.2.2.2.2 g_X11_text_X11_tellLaw_125 rfl rfl rfl (by decide +kernel) ⟨(Nat.le_of_ble_eq_true rfl), (Nat.le_of_ble_eq_true rfl)⟩) (py_preV hw (C := RX11) (T := TX11) (N := 16) rfl hr_61) rfl rfl hl.1 rfl (lv_room (Nat.le_of_ble_eq_true rfl)) dX11_text_53 ⟨(Nat.le_of_ble_eq_true rfl), (Nat.le_of_ble_eq_true rfl)⟩) (fun r_114 L_110 f_111 H_112 locs hp_113 hw => ?_)
            obtain ⟨G1, gx, hG1, hWF1, hGI1, kp1, en_115⟩ := hp_113
            have e5 := kp_f kp1 t_6 (by decide) (by decide) (fun _ => by decide)
            have e10 := kp_f kp1 (fo_ty hWF t_6) (by decide) (by decide) (fun _ => by decide)
            have e7 := kp_f kp1 t_8 (by decide) (by decide) (fun _ => by decide)
            have ey5 := fo_kp e5
            have ey7 := fo_kp e7
            have ev5 := (fv_v ey5.1 e10).1
            have br_114 := wf_free r_114
            exact py_iret G0 hr rfl hlk hw ⟨G1, gx, hG1, hWF1, hGI1, hKP.trans kp1 (by decide) (by decide), Or.inr (Or.inl ⟨by omega, by omega⟩), (Or.inr ⟨Or.inl (by omega), by omega, by omega, by omega, by omega⟩)⟩ dX11_text_56
    · skip
      have tc_86 := ti_eq c_86
      refine lv_aload_n G0.1 G0.2.1 dX11_text_19 rfl (lv_at hl 0 rfl) ?_
      obtain ⟨vL, vF, hvv, bvL, bvF⟩ := wg_9 hWF ty_65
      have hvf := va_eq hvv
      refine py_calli hw (va_runV (As := []) (rest := []) G0 (c_X11_tellValley l E G L_68 f_69 H_70.size x hG hWF Tx (show 2 ≤ rd_l f_69 (G.2 x 1) by omega) hGI) (cwV 0 G0.2.2.2.2 g_X11_text_X11_tellValley_121 rfl rfl rfl (by decide +kernel) ⟨(Nat.le_of_ble_eq_true rfl), (Nat.le_of_ble_eq_true rfl)⟩) (py_preV hw (C := RX11) (T := TX11) (N := 16) rfl hr_61) rfl rfl hl.1 rfl (lv_room (Nat.le_of_ble_eq_true rfl)) dX11_text_20 ⟨(Nat.le_of_ble_eq_true rfl), (Nat.le_of_ble_eq_true rfl)⟩) (fun r_120 L_116 f_117 H_118 locs hp_119 hw => ?_)
      have ht_128 := fo_ty hWF t_6
      have ht_129 := fo_ty hWF t_6
      have ht_130 := fo_ty hWF t_8
      obtain ⟨en_121, en_122, en_123, en_124, en_125, hWF, kp_127, hGI⟩ := hp_119
      have hTB := (gfn_kp (kp_f kp_127 (wt_8 hG (wt_11 hG Tx).1) (by decide) (by decide) (fun _ => by decide))).trans hTB
      have hKP := hKP.trans kp_127 (by decide) (by decide)
      have br_120 := wf_free r_120
      refine W.widen (k := 3) (n := 195) (Nat.le_of_ble_eq_true rfl) (Nat.le_of_ble_eq_true rfl) ?_
      exact py_iret G0 hr rfl hlk hw ⟨G, GX.refl, hG, hWF, hGI, hKP, Or.inl ⟨by omega, _, en_75, by omega⟩, (Or.inl ⟨by omega, by omega, by omega, by omega, by omega⟩)⟩ dX11_text_23
