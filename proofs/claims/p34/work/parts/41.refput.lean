theorem dX12_put_0 : decode cX12_put 0 = .ok (.aload_n 0, 1) := by decide +kernel
theorem dX12_put_1 : decode cX12_put 1 = .ok (.getfield 13, 3) := by decide +kernel
theorem dX12_put_4 : decode cX12_put 4 = .ok (.sipush 340, 3) := by decide +kernel
theorem dX12_put_7 : decode cX12_put 7 = .ok (.aload_n 0, 1) := by decide +kernel
theorem dX12_put_8 : decode cX12_put 8 = .ok (.getfield 137, 3) := by decide +kernel
theorem dX12_put_11 : decode cX12_put 11 = .ok (.imul, 1) := by decide +kernel
theorem dX12_put_12 : decode cX12_put 12 = .ok (.aload_n 0, 1) := by decide +kernel
theorem dX12_put_13 : decode cX12_put 13 = .ok (.getfield 19, 3) := by decide +kernel
theorem dX12_put_16 : decode cX12_put 16 = .ok (.aload_n 0, 1) := by decide +kernel
theorem dX12_put_17 : decode cX12_put 17 = .ok (.getfield 137, 3) := by decide +kernel
theorem dX12_put_20 : decode cX12_put 20 = .ok (.iaload, 1) := by decide +kernel
theorem dX12_put_21 : decode cX12_put 21 = .ok (.iadd, 1) := by decide +kernel
theorem dX12_put_22 : decode cX12_put 22 = .ok (.iload_n 1, 1) := by decide +kernel
theorem dX12_put_23 : decode cX12_put 23 = .ok (.iastore, 1) := by decide +kernel
theorem dX12_put_24 : decode cX12_put 24 = .ok (.aload_n 0, 1) := by decide +kernel
theorem dX12_put_25 : decode cX12_put 25 = .ok (.getfield 16, 3) := by decide +kernel
theorem dX12_put_28 : decode cX12_put 28 = .ok (.sipush 340, 3) := by decide +kernel
theorem dX12_put_31 : decode cX12_put 31 = .ok (.aload_n 0, 1) := by decide +kernel
theorem dX12_put_32 : decode cX12_put 32 = .ok (.getfield 137, 3) := by decide +kernel
theorem dX12_put_35 : decode cX12_put 35 = .ok (.imul, 1) := by decide +kernel
theorem dX12_put_36 : decode cX12_put 36 = .ok (.aload_n 0, 1) := by decide +kernel
theorem dX12_put_37 : decode cX12_put 37 = .ok (.getfield 19, 3) := by decide +kernel
theorem dX12_put_40 : decode cX12_put 40 = .ok (.aload_n 0, 1) := by decide +kernel
theorem dX12_put_41 : decode cX12_put 41 = .ok (.getfield 137, 3) := by decide +kernel
theorem dX12_put_44 : decode cX12_put 44 = .ok (.iaload, 1) := by decide +kernel
theorem dX12_put_45 : decode cX12_put 45 = .ok (.iadd, 1) := by decide +kernel
theorem dX12_put_46 : decode cX12_put 46 = .ok (.iload_n 2, 1) := by decide +kernel
theorem dX12_put_47 : decode cX12_put 47 = .ok (.iastore, 1) := by decide +kernel
theorem dX12_put_48 : decode cX12_put 48 = .ok (.aload_n 0, 1) := by decide +kernel
theorem dX12_put_49 : decode cX12_put 49 = .ok (.getfield 19, 3) := by decide +kernel
theorem dX12_put_52 : decode cX12_put 52 = .ok (.aload_n 0, 1) := by decide +kernel
theorem dX12_put_53 : decode cX12_put 53 = .ok (.getfield 137, 3) := by decide +kernel
theorem dX12_put_56 : decode cX12_put 56 = .ok (.dup2, 1) := by decide +kernel
theorem dX12_put_57 : decode cX12_put 57 = .ok (.iaload, 1) := by decide +kernel
theorem dX12_put_58 : decode cX12_put 58 = .ok (.iconst 1, 1) := by decide +kernel
theorem dX12_put_59 : decode cX12_put 59 = .ok (.iadd, 1) := by decide +kernel
theorem dX12_put_60 : decode cX12_put 60 = .ok (.iastore, 1) := by decide +kernel
theorem dX12_put_61 : decode cX12_put 61 = .ok (.return_, 1) := by decide +kernel
def w_X12_put : List Cond := .code yX12_put cX12_put 3 none :: ([Cond.fieldLink RX12 13 "HeadYearModel" "code" "[I", Cond.fieldLink RX12 137 "HeadYearModel" "text" "I", Cond.fieldLink RX12 19 "HeadYearModel" "codes" "[I", Cond.fieldLink RX12 16 "HeadYearModel" "value" "[I"] ++ (u_ws RX12 TX12 54 ++ ([])))
theorem in_X12_put_X12 : ∀ w ∈ u_ws RX12 TX12 54, w ∈ w_X12_put := fun _ h => List.mem_cons_of_mem _ (List.mem_append_right _ (List.mem_append_left _ h))
set_option maxHeartbeats 4000000 in
set_option maxRecDepth 100000 in
theorem c_X12_put (l : Launch) (E : py_E) (G : wf_G) (L : List Nat) (f : py_F) (sz : Nat) (u : Nat) (a : Int32) (b : Int32) (hG : GT G) (hWF : WF E G L f) (Tu : G.1 u = 13) (hp0 : cdv f G u ≤ 339) : Met l yX12_put w_X12_put ({ frames := 0, cells := 0, slots := 0, locals := 0 }) (py_Pc E [.ref u, .int a, .int b] L f sz) (py_Qv E L f sz (fun L1 f1 => (PT f f1 G u a b) ∧ (cdv f1 G u = cdv f G u + 1) ∧ WF E G L1 f1 ∧ KP G [41, 42, 43] false f f1 ∧ FK [] f f1 u)) 0 0 (va_A (va_pl L f) sz) := by
  refine Met.ofW (cc := cX12_put) (maxL := 3) (ret := none) (by decide) rfl ?_
  intro p e s m args below meth c s₁ B hml hv
  obtain ⟨rfl, rfl, hw⟩ := py_start hv
  have G0 : CallFix p m c cX12_put 3 s _ w_X12_put RX12 := ⟨B.exec, B.bytes, hml, findClass_of_methodNamed B.named, atoms_spec (ws := w_X12_put) B.pre⟩
  have hr := B.returns
  have hlk := B.notSynchronized
  have kcm1 : (-1 : Int32).toInt = -1 := rfl
  have kc0 : (0 : Int32).toInt = 0 := rfl
  have kc1 : (1 : Int32).toInt = 1 := rfl
  have kc340 : (340 : Int32).toInt = 340 := rfl
  have hl := lv_entry ([.ref u, .int a, .int b]) (n := 3) (Nat.le_of_ble_eq_true rfl)
  rw [lg_entry_eq]
  generalize (lg_sl ([.ref u, .int a, .int b]) ++ List.replicate (3 - (lg_sl ([.ref u, .int a, .int b])).length) Slot.unset).toArray = ls at hl ⊢
  have hl : lv_has ls 3 [(0, .ref u), (1, .int a), (2, .int b)] := hl
  have hFK : FK [] f f u := FK.refl
  have hKP : KP G [41, 42, 43] false f f := KP.refl
  refine lv_aload_n G0.1 G0.2.1 dX12_put_0 rfl (lv_at hl 0 rfl) ?_
  obtain ⟨v_1, v_2, v_3, v_4, v_5, v_6, v_7, v_8, v_9, v_10, v_11, v_12, y_13, v_14, v_15, v_16, v_17, v_18, y_19, v_20, y_21, v_22, hr_35, b_23, b_24, b_25, b_26, b_27, b_28, b_29, b_30, b_31, b_32, b_33, b_34⟩ := wg_12 hWF Tu
  have tq_36 := mi_row hr_35 4 rfl
  have bv_4 := wf_free v_4
  have tq_37 := mi_row hr_35 14 rfl
  refine py_get (C := RX12) (T := TX12) (N := 54) (k := 6) (v := .ref (G.2 u 6)) G0 hw in_X12_put_X12 rfl hr_35 (by decide) (by decide +kernel) rfl dX12_put_1 ?_
  refine lv_sipush (v := 340) G0.1 G0.2.1 dX12_put_4 (by decide) ?_
  refine lv_aload_n G0.1 G0.2.1 dX12_put_7 rfl (lv_at hl 0 rfl) ?_
  refine py_get (C := RX12) (T := TX12) (N := 54) (k := 14) (v := .int v_7) G0 hw in_X12_put_X12 rfl hr_35 (by decide) (by decide +kernel) rfl dX12_put_8 ?_
  refine lv_imul G0.1 G0.2.1 dX12_put_11 ?_
  refine lv_topi (fun x_38 ex_38 => ?_)
  first | have tx_38 := ti_muld ex_38 kc340 (by omega -splitDisjunctions) (by omega -splitDisjunctions) | skip
  refine lv_aload_n G0.1 G0.2.1 dX12_put_12 rfl (lv_at hl 0 rfl) ?_
  refine py_get (C := RX12) (T := TX12) (N := 54) (k := 8) (v := .ref (G.2 u 8)) G0 hw in_X12_put_X12 rfl hr_35 (by decide) (by decide +kernel) rfl dX12_put_13 ?_
  refine lv_aload_n G0.1 G0.2.1 dX12_put_16 rfl (lv_at hl 0 rfl) ?_
  refine py_get (C := RX12) (T := TX12) (N := 54) (k := 14) (v := .int v_7) G0 hw in_X12_put_X12 rfl hr_35 (by decide) (by decide +kernel) rfl dX12_put_17 ?_
  obtain ⟨g_39, ha_40, hi_41⟩ := wf_arr (n := 5) (lo := 0) (hi := 340) hWF (wt12_8 hG Tu) (by decide) (fun _ => rfl)
  have rg_42 : vp_in v_7 5 := ti_in (by omega) (by omega)
  refine py_iald G0 hw ha_40 rg_42 dX12_put_20 ?_
  refine lv_topi (fun x_43 ex_43 => ?_)
  have bx_43 := ti_at hi_41 rg_42 ex_43
  have hcx := cdv_ld hr_35 rfl ha_40 ex_43
  have hcl := ha_40
  refine lv_iadd G0.1 G0.2.1 dX12_put_21 ?_
  refine lv_topi (fun x_44 ex_44 => ?_)
  first | have tx_44 := ti_add ex_44 (by omega -splitDisjunctions) (by omega -splitDisjunctions) | skip
  refine lv_iload_n G0.1 G0.2.1 dX12_put_22 rfl (lv_at hl 1 rfl) ?_
  obtain ⟨g_45, ha_46, hi_47⟩ := wf_arr (n := 1700) (lo := (-2147483648)) (hi := 2147483647) hWF (wt12_6 hG Tu) (by decide) (fun _ => rfl)
  have rg_48 : vp_in x_44 1700 := ti_in (by omega) (by omega)
  refine py_iast G0 hw ha_46 rg_48 dX12_put_23 (fun f_49 H_50 locs h_51 x_52 hw => ?_)
  have hkw : KP G [41] false f f_49 := KP.refl.upd hWF x_52 (wt12_6 hG Tu) (Or.inl (by decide))
  have hFK := hFK.same ((x_52 _ (hWF _ (by rw [Tu]; decide)).1 (wf_ne Tu (wt12_6 hG Tu) (by decide))).2)
  have hKP := hKP.upd hWF x_52 (wt12_6 hG Tu) (Or.inl (by decide))
  have hi_53 := wf_inu (k := (x_44 : Int32).toNatClampNeg) (x := a) hi_47 (wf_free a).1 (wf_free a).2
  have hWF := wf_upd hWF h_51 x_52 (by rw [(wt12_6 hG Tu)]; exact ⟨_, rfl, hi_53⟩)
  have hr_35 := hr_35.ext x_52 (py_ne_arr hr_35 ha_46)
  have tq_54 := mi_row hr_35 4 rfl
  have bv_4 := wf_free v_4
  have tq_55 := mi_row hr_35 14 rfl
  have ha_40 := ha_40.ext x_52 (wf_ne (wt12_8 hG Tu) (wt12_6 hG Tu) (by decide))
  have pp1 := ha_46
  have pq1 := h_51
  have e17 := (x_52 (G.2 u 7) (hWF (G.2 u 7) (by rw [(wt12_7 hG Tu)]; decide)).1 (wf_ne (wt12_7 hG Tu) (wt12_6 hG Tu) (by decide))).2
  have e18 := (x_52 (G.2 u 8) (hWF (G.2 u 8) (by rw [(wt12_8 hG Tu)]; decide)).1 (wf_ne (wt12_8 hG Tu) (wt12_6 hG Tu) (by decide))).2
  refine lv_aload_n G0.1 G0.2.1 dX12_put_24 rfl (lv_at hl 0 rfl) ?_
  refine py_get (C := RX12) (T := TX12) (N := 54) (k := 7) (v := .ref (G.2 u 7)) G0 hw in_X12_put_X12 rfl hr_35 (by decide) (by decide +kernel) rfl dX12_put_25 ?_
  refine lv_sipush (v := 340) G0.1 G0.2.1 dX12_put_28 (by decide) ?_
  refine lv_aload_n G0.1 G0.2.1 dX12_put_31 rfl (lv_at hl 0 rfl) ?_
  refine py_get (C := RX12) (T := TX12) (N := 54) (k := 14) (v := .int v_7) G0 hw in_X12_put_X12 rfl hr_35 (by decide) (by decide +kernel) rfl dX12_put_32 ?_
  refine lv_imul G0.1 G0.2.1 dX12_put_35 ?_
  refine lv_topi (fun x_56 ex_56 => ?_)
  first | have tx_56 := ti_muld ex_56 kc340 (by omega -splitDisjunctions) (by omega -splitDisjunctions) | skip
  refine lv_aload_n G0.1 G0.2.1 dX12_put_36 rfl (lv_at hl 0 rfl) ?_
  refine py_get (C := RX12) (T := TX12) (N := 54) (k := 8) (v := .ref (G.2 u 8)) G0 hw in_X12_put_X12 rfl hr_35 (by decide) (by decide +kernel) rfl dX12_put_37 ?_
  refine lv_aload_n G0.1 G0.2.1 dX12_put_40 rfl (lv_at hl 0 rfl) ?_
  refine py_get (C := RX12) (T := TX12) (N := 54) (k := 14) (v := .int v_7) G0 hw in_X12_put_X12 rfl hr_35 (by decide) (by decide +kernel) rfl dX12_put_41 ?_
  have rg_57 : vp_in v_7 5 := ti_in (by omega) (by omega)
  refine py_iald G0 hw ha_40 rg_57 dX12_put_44 ?_
  refine lv_topi (fun x_58 ex_58 => ?_)
  have bx_58 := ti_at hi_41 rg_57 ex_58
  have hcx2 : x_58.toInt = x_43.toInt := by rw [← arz_ld ha_40 ex_58, ← arz_ld hcl ex_43, arz_kp e18]
  refine lv_iadd G0.1 G0.2.1 dX12_put_45 ?_
  refine lv_topi (fun x_59 ex_59 => ?_)
  first | have tx_59 := ti_add ex_59 (by omega -splitDisjunctions) (by omega -splitDisjunctions) | skip
  refine lv_iload_n G0.1 G0.2.1 dX12_put_46 rfl (lv_at hl 2 rfl) ?_
  obtain ⟨g_60, ha_61, hi_62⟩ := wf_arr (n := 1700) (lo := (-2147483648)) (hi := 2147483647) hWF (wt12_7 hG Tu) (by decide) (fun _ => rfl)
  have rg_63 : vp_in x_59 1700 := ti_in (by omega) (by omega)
  refine py_iast G0 hw ha_61 rg_63 dX12_put_47 (fun f_64 H_65 locs h_66 x_67 hw => ?_)
  have hkw : KP G [42] false f_49 f_64 := KP.refl.upd hWF x_67 (wt12_7 hG Tu) (Or.inl (by decide))
  have hFK := hFK.same ((x_67 _ (hWF _ (by rw [Tu]; decide)).1 (wf_ne Tu (wt12_7 hG Tu) (by decide))).2)
  have hKP := hKP.upd hWF x_67 (wt12_7 hG Tu) (Or.inl (by decide))
  have hi_68 := wf_inu (k := (x_59 : Int32).toNatClampNeg) (x := b) hi_62 (wf_free b).1 (wf_free b).2
  have hWF := wf_upd hWF h_66 x_67 (by rw [(wt12_7 hG Tu)]; exact ⟨_, rfl, hi_68⟩)
  have hr_35 := hr_35.ext x_67 (py_ne_arr hr_35 ha_61)
  have tq_69 := mi_row hr_35 4 rfl
  have bv_4 := wf_free v_4
  have tq_70 := mi_row hr_35 14 rfl
  have h_51 := h_51.ext x_67 (wf_ne (wt12_6 hG Tu) (wt12_7 hG Tu) (by decide))
  have ha_40 := ha_40.ext x_67 (wf_ne (wt12_8 hG Tu) (wt12_7 hG Tu) (by decide))
  have pp2 := ha_61
  have pq2 := h_66
  have e26 := (x_67 (G.2 u 6) (hWF (G.2 u 6) (by rw [(wt12_6 hG Tu)]; decide)).1 (wf_ne (wt12_6 hG Tu) (wt12_7 hG Tu) (by decide))).2
  have e28 := (x_67 (G.2 u 8) (hWF (G.2 u 8) (by rw [(wt12_8 hG Tu)]; decide)).1 (wf_ne (wt12_8 hG Tu) (wt12_7 hG Tu) (by decide))).2
  refine lv_aload_n G0.1 G0.2.1 dX12_put_48 rfl (lv_at hl 0 rfl) ?_
  refine py_get (C := RX12) (T := TX12) (N := 54) (k := 8) (v := .ref (G.2 u 8)) G0 hw in_X12_put_X12 rfl hr_35 (by decide) (by decide +kernel) rfl dX12_put_49 ?_
  refine lv_aload_n G0.1 G0.2.1 dX12_put_52 rfl (lv_at hl 0 rfl) ?_
  refine py_get (C := RX12) (T := TX12) (N := 54) (k := 14) (v := .int v_7) G0 hw in_X12_put_X12 rfl hr_35 (by decide) (by decide +kernel) rfl dX12_put_53 ?_
  refine lv_dup2_11 G0.1 G0.2.1 dX12_put_56 rfl rfl ?_
  have rg_71 : vp_in v_7 5 := ti_in (by omega) (by omega)
  refine py_iald G0 hw ha_40 rg_71 dX12_put_57 ?_
  refine lv_topi (fun x_72 ex_72 => ?_)
  have bx_72 := ti_at hi_41 rg_71 ex_72
  have hcx3 : x_72.toInt = x_43.toInt := by rw [← arz_ld ha_40 ex_72, ← arz_ld hcl ex_43, arz_kp e28, arz_kp e18]
  refine lv_iconst (v := 1) G0.1 G0.2.1 dX12_put_58 (by decide) ?_
  refine lv_iadd G0.1 G0.2.1 dX12_put_59 ?_
  refine lv_topi (fun x_73 ex_73 => ?_)
  first | have tx_73 := ti_add ex_73 (by omega -splitDisjunctions) (by omega -splitDisjunctions) | skip
  have rg_74 : vp_in v_7 5 := ti_in (by omega) (by omega)
  refine py_iast G0 hw ha_40 rg_74 dX12_put_60 (fun f_75 H_76 locs h_77 x_78 hw => ?_)
  have hkw : KP G [43] false f_64 f_75 := KP.refl.upd hWF x_78 (wt12_8 hG Tu) (Or.inl (by decide))
  have hFK := hFK.same ((x_78 _ (hWF _ (by rw [Tu]; decide)).1 (wf_ne Tu (wt12_8 hG Tu) (by decide))).2)
  have hKP := hKP.upd hWF x_78 (wt12_8 hG Tu) (Or.inl (by decide))
  have hi_79 := wf_inu (k := (v_7 : Int32).toNatClampNeg) (x := x_73) hi_41 (by omega) (by omega)
  have hWF := wf_upd hWF h_77 x_78 (by rw [(wt12_8 hG Tu)]; exact ⟨_, rfl, hi_79⟩)
  have hr_35 := hr_35.ext x_78 (py_ne_arr hr_35 ha_40)
  have tq_80 := mi_row hr_35 4 rfl
  have bv_4 := wf_free v_4
  have tq_81 := mi_row hr_35 14 rfl
  have h_66 := h_66.ext x_78 (wf_ne (wt12_7 hG Tu) (wt12_8 hG Tu) (by decide))
  have h_51 := h_51.ext x_78 (wf_ne (wt12_6 hG Tu) (wt12_8 hG Tu) (by decide))
  have e36 := (x_78 (G.2 u 6) (hWF (G.2 u 6) (by rw [(wt12_6 hG Tu)]; decide)).1 (wf_ne (wt12_6 hG Tu) (wt12_8 hG Tu) (by decide))).2
  have e37 := (x_78 (G.2 u 7) (hWF (G.2 u 7) (by rw [(wt12_7 hG Tu)]; decide)).1 (wf_ne (wt12_7 hG Tu) (wt12_8 hG Tu) (by decide))).2
  have hPT : PT f f_75 G u a b := pt_of pp1 pq1 e17 e18 pp2 (by rw [show x_44 = x_59 by first | rfl | exact Int32.toInt_inj.mp (by omega)]; exact pq2) e26 e28 ha_40 h_77 e36 e37 (by omega) (by omega) (by omega) (by omega) hcx (by omega) (by omega) (by omega)
  exact py_vret G0 hr hlk hw ⟨hPT, hPT.2.2.2.2.1, hWF, hKP, hFK⟩ dX12_put_61
