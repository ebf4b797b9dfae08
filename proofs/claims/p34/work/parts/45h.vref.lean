theorem dX12_clauseText_0 : decode cX12_clauseText 0 = .ok (.aload_n 0, 1) := by decide +kernel
theorem dX12_clauseText_1 : decode cX12_clauseText 1 = .ok (.invokevirtual 146, 3) := by decide +kernel
theorem dX12_clauseText_4 : decode cX12_clauseText 4 = .ok (.istore_n 1, 1) := by decide +kernel
theorem dX12_clauseText_5 : decode cX12_clauseText 5 = .ok (.iload_n 1, 1) := by decide +kernel
theorem dX12_clauseText_6 : decode cX12_clauseText 6 = .ok (.bipush 108, 2) := by decide +kernel
theorem dX12_clauseText_8 : decode cX12_clauseText 8 = .ok (.if_icmp .ne 7, 3) := by decide +kernel
theorem dX12_clauseText_11 : decode cX12_clauseText 11 = .ok (.iconst 1, 1) := by decide +kernel
theorem dX12_clauseText_12 : decode cX12_clauseText 12 = .ok (.goto 4, 3) := by decide +kernel
theorem dX12_clauseText_15 : decode cX12_clauseText 15 = .ok (.iconst 0, 1) := by decide +kernel
theorem dX12_clauseText_16 : decode cX12_clauseText 16 = .ok (.istore_n 2, 1) := by decide +kernel
theorem dX12_clauseText_17 : decode cX12_clauseText 17 = .ok (.iload_n 2, 1) := by decide +kernel
theorem dX12_clauseText_18 : decode cX12_clauseText 18 = .ok (.ifCond .ne 9, 3) := by decide +kernel
theorem dX12_clauseText_21 : decode cX12_clauseText 21 = .ok (.iload_n 1, 1) := by decide +kernel
theorem dX12_clauseText_22 : decode cX12_clauseText 22 = .ok (.bipush 107, 2) := by decide +kernel
theorem dX12_clauseText_24 : decode cX12_clauseText 24 = .ok (.if_icmp .ne 28, 3) := by decide +kernel
theorem dX12_clauseText_27 : decode cX12_clauseText 27 = .ok (.iload_n 2, 1) := by decide +kernel
theorem dX12_clauseText_28 : decode cX12_clauseText 28 = .ok (.ifCond .eq 15, 3) := by decide +kernel
theorem dX12_clauseText_31 : decode cX12_clauseText 31 = .ok (.aload_n 0, 1) := by decide +kernel
theorem dX12_clauseText_32 : decode cX12_clauseText 32 = .ok (.getfield 264, 3) := by decide +kernel
theorem dX12_clauseText_35 : decode cX12_clauseText 35 = .ok (.bipush 8, 2) := by decide +kernel
theorem dX12_clauseText_37 : decode cX12_clauseText 37 = .ok (.if_icmp .ne 20, 3) := by decide +kernel
theorem dX12_clauseText_40 : decode cX12_clauseText 40 = .ok (.goto 12, 3) := by decide +kernel
theorem dX12_clauseText_43 : decode cX12_clauseText 43 = .ok (.aload_n 0, 1) := by decide +kernel
theorem dX12_clauseText_44 : decode cX12_clauseText 44 = .ok (.getfield 267, 3) := by decide +kernel
theorem dX12_clauseText_47 : decode cX12_clauseText 47 = .ok (.bipush 10, 2) := by decide +kernel
theorem dX12_clauseText_49 : decode cX12_clauseText 49 = .ok (.if_icmp .ne 8, 3) := by decide +kernel
theorem dX12_clauseText_52 : decode cX12_clauseText 52 = .ok (.aload_n 0, 1) := by decide +kernel
theorem dX12_clauseText_53 : decode cX12_clauseText 53 = .ok (.invokevirtual 143, 3) := by decide +kernel
theorem dX12_clauseText_56 : decode cX12_clauseText 56 = .ok (.return_, 1) := by decide +kernel
theorem dX12_clauseText_57 : decode cX12_clauseText 57 = .ok (.aload_n 0, 1) := by decide +kernel
theorem dX12_clauseText_58 : decode cX12_clauseText 58 = .ok (.dup, 1) := by decide +kernel
theorem dX12_clauseText_59 : decode cX12_clauseText 59 = .ok (.getfield 127, 3) := by decide +kernel
theorem dX12_clauseText_62 : decode cX12_clauseText 62 = .ok (.iconst 1, 1) := by decide +kernel
theorem dX12_clauseText_63 : decode cX12_clauseText 63 = .ok (.iadd, 1) := by decide +kernel
theorem dX12_clauseText_64 : decode cX12_clauseText 64 = .ok (.putfield 127, 3) := by decide +kernel
theorem dX12_clauseText_67 : decode cX12_clauseText 67 = .ok (.aload_n 0, 1) := by decide +kernel
theorem dX12_clauseText_68 : decode cX12_clauseText 68 = .ok (.iload_n 2, 1) := by decide +kernel
theorem dX12_clauseText_69 : decode cX12_clauseText 69 = .ok (.iload_n 2, 1) := by decide +kernel
theorem dX12_clauseText_70 : decode cX12_clauseText 70 = .ok (.ifCond .eq 10, 3) := by decide +kernel
theorem dX12_clauseText_73 : decode cX12_clauseText 73 = .ok (.aload_n 0, 1) := by decide +kernel
theorem dX12_clauseText_74 : decode cX12_clauseText 74 = .ok (.getfield 40, 3) := by decide +kernel
theorem dX12_clauseText_77 : decode cX12_clauseText 77 = .ok (.goto 7, 3) := by decide +kernel
theorem dX12_clauseText_80 : decode cX12_clauseText 80 = .ok (.aload_n 0, 1) := by decide +kernel
theorem dX12_clauseText_81 : decode cX12_clauseText 81 = .ok (.getfield 43, 3) := by decide +kernel
theorem dX12_clauseText_84 : decode cX12_clauseText 84 = .ok (.iconst 4, 1) := by decide +kernel
theorem dX12_clauseText_85 : decode cX12_clauseText 85 = .ok (.iload_n 2, 1) := by decide +kernel
theorem dX12_clauseText_86 : decode cX12_clauseText 86 = .ok (.ifCond .eq 10, 3) := by decide +kernel
theorem dX12_clauseText_89 : decode cX12_clauseText 89 = .ok (.aload_n 0, 1) := by decide +kernel
theorem dX12_clauseText_90 : decode cX12_clauseText 90 = .ok (.getfield 264, 3) := by decide +kernel
theorem dX12_clauseText_93 : decode cX12_clauseText 93 = .ok (.goto 7, 3) := by decide +kernel
theorem dX12_clauseText_96 : decode cX12_clauseText 96 = .ok (.aload_n 0, 1) := by decide +kernel
theorem dX12_clauseText_97 : decode cX12_clauseText 97 = .ok (.getfield 267, 3) := by decide +kernel
theorem dX12_clauseText_100 : decode cX12_clauseText 100 = .ok (.imul, 1) := by decide +kernel
theorem dX12_clauseText_101 : decode cX12_clauseText 101 = .ok (.invokevirtual 270, 3) := by decide +kernel
theorem dX12_clauseText_104 : decode cX12_clauseText 104 = .ok (.aload_n 0, 1) := by decide +kernel
theorem dX12_clauseText_105 : decode cX12_clauseText 105 = .ok (.dup, 1) := by decide +kernel
theorem dX12_clauseText_106 : decode cX12_clauseText 106 = .ok (.getfield 264, 3) := by decide +kernel
theorem dX12_clauseText_109 : decode cX12_clauseText 109 = .ok (.iload_n 2, 1) := by decide +kernel
theorem dX12_clauseText_110 : decode cX12_clauseText 110 = .ok (.ifCond .eq 7, 3) := by decide +kernel
theorem dX12_clauseText_113 : decode cX12_clauseText 113 = .ok (.iconst 1, 1) := by decide +kernel
theorem dX12_clauseText_114 : decode cX12_clauseText 114 = .ok (.goto 4, 3) := by decide +kernel
theorem dX12_clauseText_117 : decode cX12_clauseText 117 = .ok (.iconst 0, 1) := by decide +kernel
theorem dX12_clauseText_118 : decode cX12_clauseText 118 = .ok (.iadd, 1) := by decide +kernel
theorem dX12_clauseText_119 : decode cX12_clauseText 119 = .ok (.putfield 264, 3) := by decide +kernel
theorem dX12_clauseText_122 : decode cX12_clauseText 122 = .ok (.aload_n 0, 1) := by decide +kernel
theorem dX12_clauseText_123 : decode cX12_clauseText 123 = .ok (.dup, 1) := by decide +kernel
theorem dX12_clauseText_124 : decode cX12_clauseText 124 = .ok (.getfield 267, 3) := by decide +kernel
theorem dX12_clauseText_127 : decode cX12_clauseText 127 = .ok (.iload_n 2, 1) := by decide +kernel
theorem dX12_clauseText_128 : decode cX12_clauseText 128 = .ok (.ifCond .eq 7, 3) := by decide +kernel
theorem dX12_clauseText_131 : decode cX12_clauseText 131 = .ok (.iconst 0, 1) := by decide +kernel
theorem dX12_clauseText_132 : decode cX12_clauseText 132 = .ok (.goto 4, 3) := by decide +kernel
theorem dX12_clauseText_135 : decode cX12_clauseText 135 = .ok (.iconst 1, 1) := by decide +kernel
theorem dX12_clauseText_136 : decode cX12_clauseText 136 = .ok (.iadd, 1) := by decide +kernel
theorem dX12_clauseText_137 : decode cX12_clauseText 137 = .ok (.putfield 267, 3) := by decide +kernel
theorem dX12_clauseText_140 : decode cX12_clauseText 140 = .ok (.return_, 1) := by decide +kernel
def w_X12_clauseText : List Cond := .code yX12_clauseText cX12_clauseText 3 none :: ([Cond.methodLink RX12 146 yX12_look, Cond.instanceMethod yX12_look, Cond.selects RX12 yX12_look yX12_look, Cond.initialized RX12, Cond.methodLink RX12 143 yX12_bad, Cond.instanceMethod yX12_bad, Cond.selects RX12 yX12_bad yX12_bad, Cond.fieldLink RX12 267 "HeadYearModel" "readFamilies" "I", Cond.fieldLink RX12 127 "HeadYearModel" "at" "I", Cond.fieldLink RX12 43 "HeadYearModel" "readFamily" "[I", Cond.methodLink RX12 270 yX12_items, Cond.instanceMethod yX12_items, Cond.selects RX12 yX12_items yX12_items, Cond.fieldLink RX12 264 "HeadYearModel" "readLevels" "I", Cond.fieldLink RX12 40 "HeadYearModel" "readLevel" "[I"] ++ (u_ws RX12 TX12 54 ++ (w_X12_look ++ (w_X12_bad ++ (w_X12_items ++ ([]))))))
theorem in_X12_clauseText_X12 : ∀ w ∈ u_ws RX12 TX12 54, w ∈ w_X12_clauseText := fun _ h => List.mem_cons_of_mem _ (List.mem_append_right _ (List.mem_append_left _ h))
theorem gg_X12_clauseText_X12_look : GoodIn w_X12_clauseText w_X12_look := goodIn_sub (fun _ h => List.mem_cons_of_mem _ (List.mem_append_right _ (List.mem_append_right _ (List.mem_append_left _ h)))) (by decide +kernel)
theorem gg_X12_clauseText_X12_bad : GoodIn w_X12_clauseText w_X12_bad := goodIn_sub (fun _ h => List.mem_cons_of_mem _ (List.mem_append_right _ (List.mem_append_right _ (List.mem_append_right _ (List.mem_append_left _ h))))) (by decide +kernel)
theorem gg_X12_clauseText_X12_items : GoodIn w_X12_clauseText w_X12_items := goodIn_sub (fun _ h => List.mem_cons_of_mem _ (List.mem_append_right _ (List.mem_append_right _ (List.mem_append_right _ (List.mem_append_right _ (List.mem_append_left _ h)))))) (by decide +kernel)
theorem g_X12_clauseText_X12_bad_143 : GoodIn w_X12_clauseText (wsV RX12 143 RX12 yX12_bad w_X12_bad) := goodIn_app (goodIn_of _ (by decide +kernel)) gg_X12_clauseText_X12_bad
theorem g_X12_clauseText_X12_items_270 : GoodIn w_X12_clauseText (wsV RX12 270 RX12 yX12_items w_X12_items) := goodIn_app (goodIn_of _ (by decide +kernel)) gg_X12_clauseText_X12_items
theorem g_X12_clauseText_X12_look_146 : GoodIn w_X12_clauseText (wsV RX12 146 RX12 yX12_look w_X12_look) := goodIn_app (goodIn_of _ (by decide +kernel)) gg_X12_clauseText_X12_look
set_option maxHeartbeats 4000000 in
set_option maxRecDepth 100000 in
theorem c_X12_clauseText (l : Launch) (E : py_E) (G : wf_G) (L : List Nat) (f : py_F) (sz : Nat) (u : Nat) (gb : rs_B) (nb : Int) (pb : Int) (sb : rv_S) (hG : GT G) (hWF : WF E G L f) (Tu : G.1 u = 13) (hp0 : 0 ≤ mi f u 3 ∧ mi f u 3 ≤ mi f u 2 ∧ mi f u 4 = -1) (hp1 : mi f u 3 = pb) (hp2 : mi f u 2 = nb ∧ 0 ≤ pb) (hq0 : RD f G u sb) (hq1 : AG f (G.2 u 1) gb nb) : Met l yX12_clauseText w_X12_clauseText ({ frames := 4, cells := 0, slots := 0, locals := 89 }) (py_Pc E [.ref u] L f sz) (py_Qv E L f sz (fun L1 f1 => (mi f u 3 ≤ mi f1 u 3 ∧ mi f1 u 3 ≤ mi f u 2) ∧ (RFm f G u (mi f u 20) → mi f1 u 4 = -1 → RFm f1 G u (mi f1 u 20)) ∧ (mi f1 u 4 = -1 → CQ gb nb (rv_cl gb nb sb pb) (mi f1 u 3)) ∧ (mi f1 u 4 ≠ -1 → (rv_cl gb nb sb pb).1.1 = 0 ∧ mi f1 u 4 = (rv_cl gb nb sb pb).1.2) ∧ (mi f1 u 4 = -1 → RD f1 G u (rv_cl gb nb sb pb).2) ∧ WF E G L1 f1 ∧ KP G [50, 51, 13] false f f1 ∧ FK [3, 4, 19, 20] f f1 u)) 0 0 (va_A (va_pl L f) sz) := by
  refine Met.ofW (cc := cX12_clauseText) (maxL := 3) (ret := none) (by decide) rfl ?_
  intro p e s m args below meth c s₁ B hml hv
  obtain ⟨rfl, rfl, hw⟩ := py_start hv
  have G0 : CallFix p m c cX12_clauseText 3 s _ w_X12_clauseText RX12 := ⟨B.exec, B.bytes, hml, findClass_of_methodNamed B.named, atoms_spec (ws := w_X12_clauseText) B.pre⟩
  have hr := B.returns
  have hlk := B.notSynchronized
  have kcm1 : (-1 : Int32).toInt = -1 := rfl
  have kc0 : (0 : Int32).toInt = 0 := rfl
  have kc1 : (1 : Int32).toInt = 1 := rfl
  have kc4 : (4 : Int32).toInt = 4 := rfl
  have kc8 : (8 : Int32).toInt = 8 := rfl
  have kc10 : (10 : Int32).toInt = 10 := rfl
  have kc107 : (107 : Int32).toInt = 107 := rfl
  have kc108 : (108 : Int32).toInt = 108 := rfl
  have hl := lv_entry ([.ref u]) (n := 3) (Nat.le_of_ble_eq_true rfl)
  rw [lg_entry_eq]
  generalize (lg_sl ([.ref u]) ++ List.replicate (3 - (lg_sl ([.ref u])).length) Slot.unset).toArray = ls at hl ⊢
  have hl : lv_has ls 3 [(0, .ref u)] := hl
  have hFK : FK [3, 4, 19, 20] f f u := FK.refl
  have hKP : KP G [50, 51, 13] false f f := KP.refl
  have hRD := hq0
  have hMB := hq1
  have h17 : f (G.2 u 17) = f (G.2 u 17) := rfl
  have h18 : f (G.2 u 18) = f (G.2 u 18) := rfl
  have hRD1 := hRD.1
  obtain ⟨v_1, v_2, v_3, v_4, v_5, v_6, v_7, v_8, v_9, v_10, v_11, v_12, y_13, v_14, v_15, v_16, v_17, v_18, y_19, v_20, y_21, v_22, hr_35, b_23, b_24, b_25, b_26, b_27, b_28, b_29, b_30, b_31, b_32, b_33, b_34⟩ := wg_12 hWF Tu
  have tq_36 := mi_row hr_35 2 rfl
  have tq_37 := mi_row hr_35 3 rfl
  have bv_3 := wf_free v_3
  have tq_38 := mi_row hr_35 4 rfl
  have bv_4 := wf_free v_4
  have tq_39 := mi_row hr_35 19 rfl
  have tq_40 := mi_row hr_35 20 rfl
  refine lv_aload_n G0.1 G0.2.1 dX12_clauseText_0 rfl (lv_at hl 0 rfl) ?_
  refine py_calli hw (va_runV (As := []) (rest := []) G0 (c_X12_look l E G L f s.heap.size u gb nb pb hG hWF Tu (show 0 ≤ mi f u 3 ∧ mi f u 3 ≤ mi f u 2 by omega) (show mi f u 3 = pb by omega) (show mi f u 2 = nb ∧ 0 ≤ pb by omega) hMB) (cwV 0 G0.2.2.2.2 g_X12_clauseText_X12_look_146 rfl rfl rfl (by decide +kernel) ⟨(Nat.le_of_ble_eq_true rfl), (Nat.le_of_ble_eq_true rfl)⟩) (py_preV hw (C := RX12) (T := TX12) (N := 54) rfl hr_35) rfl rfl hl.1 rfl (lv_room (Nat.le_of_ble_eq_true rfl)) dX12_clauseText_1 ⟨(Nat.le_of_ble_eq_true rfl), (Nat.le_of_ble_eq_true rfl)⟩) (fun r_45 L_41 f_42 H_43 locs hp_44 hw => ?_)
  obtain ⟨en_46, en_47, en_48, en_49, hWF, kp_50, fk_51⟩ := hp_44
  have hMB := hMB.kp (kp_f kp_50 (wt12_1 hG Tu) (by decide) (by decide) (fun _ => by decide))
  have h17 := (kp_f kp_50 (wt12_17 hG Tu) (by decide) (by decide) (fun _ => by decide)).trans h17
  have h18 := (kp_f kp_50 (wt12_18 hG Tu) (by decide) (by decide) (fun _ => by decide)).trans h18
  have hFK := hFK.trans fk_51 (by decide)
  have hKP := hKP.trans kp_50 (by decide) (by decide)
  obtain ⟨v_52, hr_53⟩ := fk_3 hWF Tu fk_51 hr_35
  have tq_54 := mi_row hr_53 2 rfl
  have tq_55 := mi_row hr_53 3 rfl
  have bv_52 := wf_free v_52
  have tq_56 := mi_row hr_53 4 rfl
  have bv_4 := wf_free v_4
  have tq_57 := mi_row hr_53 19 rfl
  have tq_58 := mi_row hr_53 20 rfl
  have br_45 := wf_free r_45
  refine lv_istore_n (lv' := [(1, .int r_45), (0, .ref u)]) G0.1 G0.2.1 dX12_clauseText_4 rfl hl (by decide) rfl (fun ls hl => ?_)
  refine lv_iload_n G0.1 G0.2.1 dX12_clauseText_5 rfl (lv_at hl 0 rfl) ?_
  refine lv_bipush (v := 108) G0.1 G0.2.1 dX12_clauseText_6 (by decide) ?_
  refine lv_icmp_ne (tgt := 15) G0.1 G0.2.1 dX12_clauseText_8 (by decide) (fun c_59 => ?_) (fun c_59 => ?_)
  · skip
    have tc_59 := ti_ne c_59
    refine lv_iconst (v := 0) G0.1 G0.2.1 dX12_clauseText_15 (by decide) ?_
    refine lv_istore_n (lv' := [(2, .int 0), (1, .int r_45), (0, .ref u)]) G0.1 G0.2.1 dX12_clauseText_16 rfl hl (by decide) rfl (fun ls hl => ?_)
    refine lv_iload_n G0.1 G0.2.1 dX12_clauseText_17 rfl (lv_at hl 0 rfl) ?_
    refine lv_if_ne (tgt := 27) G0.1 G0.2.1 dX12_clauseText_18 (by decide) (fun c_60 => ?_) (fun c_60 => ?_)
    · skip
      exact absurd c_60 (by decide)
    · skip
      have tc_60 := ti_eq c_60
      refine lv_iload_n G0.1 G0.2.1 dX12_clauseText_21 rfl (lv_at hl 1 rfl) ?_
      refine lv_bipush (v := 107) G0.1 G0.2.1 dX12_clauseText_22 (by decide) ?_
      refine lv_icmp_ne (tgt := 52) G0.1 G0.2.1 dX12_clauseText_24 (by decide) (fun c_61 => ?_) (fun c_61 => ?_)
      · skip
        have tc_61 := ti_ne c_61
        refine lv_aload_n G0.1 G0.2.1 dX12_clauseText_52 rfl (lv_at hl 2 rfl) ?_
        refine py_callv hw (va_runV (As := []) (rest := []) G0 (c_X12_bad l E G L_41 f_42 H_43.size u hG hWF Tu (show 0 ≤ mi f_42 u 3 by omega)) (cwV 0 G0.2.2.2.2 g_X12_clauseText_X12_bad_143 rfl rfl rfl (by decide +kernel) ⟨(Nat.le_of_ble_eq_true rfl), (Nat.le_of_ble_eq_true rfl)⟩) (py_preV hw (C := RX12) (T := TX12) (N := 54) rfl hr_53) rfl rfl hl.1 rfl (lv_room (Nat.le_of_ble_eq_true rfl)) dX12_clauseText_53 ⟨(Nat.le_of_ble_eq_true rfl), (Nat.le_of_ble_eq_true rfl)⟩) (fun L_62 f_63 H_64 locs hp_65 hw => ?_)
        obtain ⟨en_67, en_68, en_69, hWF, kp_70, fk_71⟩ := hp_65
        have hMB := hMB.kp (kp_f kp_70 (wt12_1 hG Tu) (by decide) (by decide) (fun _ => by decide))
        have h17 := (kp_f kp_70 (wt12_17 hG Tu) (by decide) (by decide) (fun _ => by decide)).trans h17
        have h18 := (kp_f kp_70 (wt12_18 hG Tu) (by decide) (by decide) (fun _ => by decide)).trans h18
        have hFK := hFK.trans fk_71 (by decide)
        have hKP := hKP.trans kp_70 (by decide) (by decide)
        obtain ⟨v_72, hr_73⟩ := fk_4 hWF Tu fk_71 hr_53
        have tq_74 := mi_row hr_73 2 rfl
        have tq_75 := mi_row hr_73 3 rfl
        have bv_52 := wf_free v_52
        have tq_76 := mi_row hr_73 4 rfl
        have bv_72 := wf_free v_72
        have tq_77 := mi_row hr_73 19 rfl
        have tq_78 := mi_row hr_73 20 rfl
        exact py_vret G0 hr hlk hw ⟨(by first | omega | (intro q; omega)), (fun hrf hw => absurd hw (by omega)), (fun hw => absurd hw (by omega)), (fun hw => cw_0 (by omega) (by omega) (by omega)), (fun hw => absurd hw (by omega)), hWF, hKP, hFK⟩ dX12_clauseText_56
      · skip
        have tc_61 := ti_eq c_61
        replace en_47 := en_47 (by omega)
        refine lv_iload_n G0.1 G0.2.1 dX12_clauseText_27 rfl (lv_at hl 0 rfl) ?_
        refine lv_if_eq (tgt := 43) G0.1 G0.2.1 dX12_clauseText_28 (by decide) (fun c_79 => ?_) (fun c_79 => ?_)
        · skip
          have tc_79 := ti_eq c_79
          refine lv_aload_n G0.1 G0.2.1 dX12_clauseText_43 rfl (lv_at hl 2 rfl) ?_
          refine py_get (C := RX12) (T := TX12) (N := 54) (k := 20) (v := .int v_9) G0 hw in_X12_clauseText_X12 rfl hr_53 (by decide) (by decide +kernel) rfl dX12_clauseText_44 ?_
          refine lv_bipush (v := 10) G0.1 G0.2.1 dX12_clauseText_47 (by decide) ?_
          refine lv_icmp_ne (tgt := 57) G0.1 G0.2.1 dX12_clauseText_49 (by decide) (fun c_80 => ?_) (fun c_80 => ?_)
          · skip
            have tc_80 := ti_ne c_80
            refine lv_aload_n G0.1 G0.2.1 dX12_clauseText_57 rfl (lv_at hl 2 rfl) ?_
            refine lv_dup G0.1 G0.2.1 dX12_clauseText_58 rfl ?_
            refine py_get (C := RX12) (T := TX12) (N := 54) (k := 3) (v := .int v_52) G0 hw in_X12_clauseText_X12 rfl hr_53 (by decide) (by decide +kernel) rfl dX12_clauseText_59 ?_
            refine lv_iconst (v := 1) G0.1 G0.2.1 dX12_clauseText_62 (by decide) ?_
            refine lv_iadd G0.1 G0.2.1 dX12_clauseText_63 ?_
            refine lv_topi (fun x_81 ex_81 => ?_)
            first | have tx_81 := ti_add ex_81 (by omega -splitDisjunctions) (by omega -splitDisjunctions) | skip
            refine py_put (C := RX12) (T := TX12) (N := 54) (k := 3) (v := .int x_81) (fs' := [.int v_1, .ref (G.2 u 1), .int v_2, .int x_81, .int v_4, .int v_5, .ref (G.2 u 6), .ref (G.2 u 7), .ref (G.2 u 8), .ref (G.2 u 9), .ref (G.2 u 10), .ref (G.2 u 11), .ref (G.2 u 12), .int v_6, .int v_7, .ref (G.2 u 15), .ref (G.2 u 16), .ref (G.2 u 17), .ref (G.2 u 18), .int v_8, .int v_9, .ref (G.2 u 21), .ref (G.2 u 22), .ref (G.2 u 23), .int v_10, .int v_11, .ref (G.2 u 26), .ref (G.2 u 27), .ref (G.2 u 28), .int v_12, .long y_13, .int v_14, .int v_15, .int v_16, .int v_17, .ref (G.2 u 35), .ref (G.2 u 36), .ref (G.2 u 37), .ref (G.2 u 38), .ref (G.2 u 39), .ref (G.2 u 40), .ref (G.2 u 41), .ref (G.2 u 42), .int v_18, .ref (G.2 u 44), .ref (G.2 u 45), .ref (G.2 u 46), .ref (G.2 u 47), .long y_19, .ref (G.2 u 49), .ref (G.2 u 50), .int v_20, .long y_21, .int v_22]) (ty0 := tyX12) G0 hw tyX12_ok nmX12 in_X12_clauseText_X12 rfl hr_53 (by decide) (by decide +kernel) rfl rfl rfl rfl (Nat.le_of_ble_eq_true rfl) rfl dX12_clauseText_64 (fun f_82 H_83 locs h_84 x_85 hw => ?_)
            have hMB := hMB.kp (kp_f (KP.refl.upd hWF x_85 Tu (Or.inl (by decide)) : KP G [13] false f_42 f_82) (wt12_1 hG Tu) (by decide) (by decide) (fun _ => by decide))
            have h17 := (x_85 _ (hWF _ (by rw [(wt12_17 hG Tu)]; decide)).1 (wf_ne (wt12_17 hG Tu) Tu (by decide))).2.trans h17
            have h18 := (x_85 _ (hWF _ (by rw [(wt12_18 hG Tu)]; decide)).1 (wf_ne (wt12_18 hG Tu) Tu (by decide))).2.trans h18
            have hFK := hFK.put hr_53 h_84 3 (by decide) rfl
            have hKP := hKP.upd hWF x_85 Tu (Or.inl (by decide))
            have hWF := wf_upd hWF h_84 x_85 (by rw [Tu]; exact ⟨v_1, v_2, x_81, v_4, v_5, v_6, v_7, v_8, v_9, v_10, v_11, v_12, y_13, v_14, v_15, v_16, v_17, v_18, y_19, v_20, y_21, v_22, rfl, ⟨by omega, by omega⟩, ⟨by omega, by omega⟩, ⟨by omega, by omega⟩, ⟨by omega, by omega⟩, ⟨by omega, by omega⟩, ⟨by omega, by omega⟩, ⟨by omega, by omega⟩, ⟨by omega, by omega⟩, ⟨by omega, by omega⟩, ⟨by omega, by omega⟩, ⟨by omega, by omega⟩, ⟨by omega, by omega⟩⟩)
            have tq_86 := mi_row h_84 2 rfl
            have tq_87 := mi_row h_84 3 rfl
            have bx_81 := wf_free x_81
            have tq_88 := mi_row h_84 4 rfl
            have bv_4 := wf_free v_4
            have tq_89 := mi_row h_84 19 rfl
            have tq_90 := mi_row h_84 20 rfl
            refine lv_aload_n G0.1 G0.2.1 dX12_clauseText_67 rfl (lv_at hl 2 rfl) ?_
            refine lv_iload_n G0.1 G0.2.1 dX12_clauseText_68 rfl (lv_at hl 0 rfl) ?_
            refine lv_iload_n G0.1 G0.2.1 dX12_clauseText_69 rfl (lv_at hl 0 rfl) ?_
            refine lv_if_eq (tgt := 80) G0.1 G0.2.1 dX12_clauseText_70 (by decide) (fun c_91 => ?_) (fun c_91 => ?_)
            · skip
              have tc_91 := ti_eq c_91
              refine lv_aload_n G0.1 G0.2.1 dX12_clauseText_80 rfl (lv_at hl 2 rfl) ?_
              refine py_get (C := RX12) (T := TX12) (N := 54) (k := 18) (v := .ref (G.2 u 18)) G0 hw in_X12_clauseText_X12 rfl h_84 (by decide) (by decide +kernel) rfl dX12_clauseText_81 ?_
              refine lv_iconst (v := 4) G0.1 G0.2.1 dX12_clauseText_84 (by decide) ?_
              refine lv_iload_n G0.1 G0.2.1 dX12_clauseText_85 rfl (lv_at hl 0 rfl) ?_
              refine lv_if_eq (tgt := 96) G0.1 G0.2.1 dX12_clauseText_86 (by decide) (fun c_92 => ?_) (fun c_92 => ?_)
              · skip
                have tc_92 := ti_eq c_92
                refine lv_aload_n G0.1 G0.2.1 dX12_clauseText_96 rfl (lv_at hl 2 rfl) ?_
                refine py_get (C := RX12) (T := TX12) (N := 54) (k := 20) (v := .int v_9) G0 hw in_X12_clauseText_X12 rfl h_84 (by decide) (by decide +kernel) rfl dX12_clauseText_97 ?_
                refine lv_imul G0.1 G0.2.1 dX12_clauseText_100 ?_
                refine lv_topi (fun x_93 ex_93 => ?_)
                first | have tx_93 := ti_muld ex_93 kc4 (by omega -splitDisjunctions) (by omega -splitDisjunctions) | skip
                refine py_callv hw (va_runV (As := [.int 0, .ref (G.2 u 18), .int x_93]) (rest := []) G0 (c_X12_items51 l E G L_41 f_82 H_83.size u (G.2 u 18) x_93 gb nb (rs_sk gb nb pb + 1) hG hWF Tu (wt12_18 hG Tu) ⟨by omega, by omega⟩ (show 0 ≤ mi f_82 u 3 ∧ mi f_82 u 3 ≤ mi f_82 u 2 ∧ mi f_82 u 4 = -1 by omega) (show mi f_82 u 3 = (rs_sk gb nb pb + 1) by omega) (show mi f_82 u 2 = nb ∧ 0 ≤ (rs_sk gb nb pb + 1) by omega) hMB) (cwV 3 G0.2.2.2.2 g_X12_clauseText_X12_items_270 rfl rfl rfl (by decide +kernel) ⟨(Nat.le_of_ble_eq_true rfl), (Nat.le_of_ble_eq_true rfl)⟩) (py_preV hw (C := RX12) (T := TX12) (N := 54) rfl h_84) rfl rfl hl.1 rfl (lv_room (Nat.le_of_ble_eq_true rfl)) dX12_clauseText_101 ⟨(Nat.le_of_ble_eq_true rfl), (Nat.le_of_ble_eq_true rfl)⟩) (fun L_94 f_95 H_96 locs hp_97 hw => ?_)
                obtain ⟨en_99, en_100, en_101, en_102, en_103, hWF, kp_104, fk_105⟩ := hp_97
                have hMB := hMB.kp (kp_f kp_104 (wt12_1 hG Tu) (by decide) (by decide) (fun _ => by decide))
                have h17 := (kp_f kp_104 (wt12_17 hG Tu) (by decide) (by decide) (fun _ => by decide)).trans h17
                have hFK := hFK.trans fk_105 (by decide)
                have hKP := hKP.trans kp_104 (by decide) (by decide)
                obtain ⟨v_106, v_107, hr_108⟩ := fk_3_4 hWF Tu fk_105 h_84
                have tq_109 := mi_row hr_108 2 rfl
                have tq_110 := mi_row hr_108 3 rfl
                have bv_106 := wf_free v_106
                have tq_111 := mi_row hr_108 4 rfl
                have bv_107 := wf_free v_107
                have tq_112 := mi_row hr_108 19 rfl
                have tq_113 := mi_row hr_108 20 rfl
                have h18a := h18
                have h18b : f_95 (G.2 u 18) = f_95 (G.2 u 18) := rfl
                have hw4 : mi f_95 u 4 = mi f_95 u 4 := rfl
                have hPF := en_102
                have hIT := en_103
                refine lv_aload_n G0.1 G0.2.1 dX12_clauseText_104 rfl (lv_at hl 2 rfl) ?_
                refine lv_dup G0.1 G0.2.1 dX12_clauseText_105 rfl ?_
                refine py_get (C := RX12) (T := TX12) (N := 54) (k := 19) (v := .int v_8) G0 hw in_X12_clauseText_X12 rfl hr_108 (by decide) (by decide +kernel) rfl dX12_clauseText_106 ?_
                refine lv_iload_n G0.1 G0.2.1 dX12_clauseText_109 rfl (lv_at hl 0 rfl) ?_
                refine lv_if_eq (tgt := 117) G0.1 G0.2.1 dX12_clauseText_110 (by decide) (fun c_114 => ?_) (fun c_114 => ?_)
                · skip
                  have tc_114 := ti_eq c_114
                  refine lv_iconst (v := 0) G0.1 G0.2.1 dX12_clauseText_117 (by decide) ?_
                  refine lv_iadd G0.1 G0.2.1 dX12_clauseText_118 ?_
                  refine lv_topi (fun x_115 ex_115 => ?_)
                  first | have tx_115 := ti_add ex_115 (by omega -splitDisjunctions) (by omega -splitDisjunctions) | skip
                  refine py_put (C := RX12) (T := TX12) (N := 54) (k := 19) (v := .int x_115) (fs' := [.int v_1, .ref (G.2 u 1), .int v_2, .int v_106, .int v_107, .int v_5, .ref (G.2 u 6), .ref (G.2 u 7), .ref (G.2 u 8), .ref (G.2 u 9), .ref (G.2 u 10), .ref (G.2 u 11), .ref (G.2 u 12), .int v_6, .int v_7, .ref (G.2 u 15), .ref (G.2 u 16), .ref (G.2 u 17), .ref (G.2 u 18), .int x_115, .int v_9, .ref (G.2 u 21), .ref (G.2 u 22), .ref (G.2 u 23), .int v_10, .int v_11, .ref (G.2 u 26), .ref (G.2 u 27), .ref (G.2 u 28), .int v_12, .long y_13, .int v_14, .int v_15, .int v_16, .int v_17, .ref (G.2 u 35), .ref (G.2 u 36), .ref (G.2 u 37), .ref (G.2 u 38), .ref (G.2 u 39), .ref (G.2 u 40), .ref (G.2 u 41), .ref (G.2 u 42), .int v_18, .ref (G.2 u 44), .ref (G.2 u 45), .ref (G.2 u 46), .ref (G.2 u 47), .long y_19, .ref (G.2 u 49), .ref (G.2 u 50), .int v_20, .long y_21, .int v_22]) (ty0 := tyX12) G0 hw tyX12_ok nmX12 in_X12_clauseText_X12 rfl hr_108 (by decide) (by decide +kernel) rfl rfl rfl rfl (Nat.le_of_ble_eq_true rfl) rfl dX12_clauseText_119 (fun f_116 H_117 locs h_118 x_119 hw => ?_)
                  have hMB := hMB.kp (kp_f (KP.refl.upd hWF x_119 Tu (Or.inl (by decide)) : KP G [13] false f_95 f_116) (wt12_1 hG Tu) (by decide) (by decide) (fun _ => by decide))
                  have h17 := (x_119 _ (hWF _ (by rw [(wt12_17 hG Tu)]; decide)).1 (wf_ne (wt12_17 hG Tu) Tu (by decide))).2.trans h17
                  have h18b := (x_119 _ (hWF _ (by rw [(wt12_18 hG Tu)]; decide)).1 (wf_ne (wt12_18 hG Tu) Tu (by decide))).2.trans h18b
                  have hFK := hFK.put hr_108 h_118 19 (by decide) rfl
                  have hKP := hKP.upd hWF x_119 Tu (Or.inl (by decide))
                  have hWF := wf_upd hWF h_118 x_119 (by rw [Tu]; exact ⟨v_1, v_2, v_106, v_107, v_5, v_6, v_7, x_115, v_9, v_10, v_11, v_12, y_13, v_14, v_15, v_16, v_17, v_18, y_19, v_20, y_21, v_22, rfl, ⟨by omega, by omega⟩, ⟨by omega, by omega⟩, ⟨by omega, by omega⟩, ⟨by omega, by omega⟩, ⟨by omega, by omega⟩, ⟨by omega, by omega⟩, ⟨by omega, by omega⟩, ⟨by omega, by omega⟩, ⟨by omega, by omega⟩, ⟨by omega, by omega⟩, ⟨by omega, by omega⟩, ⟨by omega, by omega⟩⟩)
                  have tq_120 := mi_row h_118 2 rfl
                  have tq_121 := mi_row h_118 3 rfl
                  have bv_106 := wf_free v_106
                  have tq_122 := mi_row h_118 4 rfl
                  have bv_107 := wf_free v_107
                  have tq_123 := mi_row h_118 19 rfl
                  have tq_124 := mi_row h_118 20 rfl
                  refine lv_aload_n G0.1 G0.2.1 dX12_clauseText_122 rfl (lv_at hl 2 rfl) ?_
                  refine lv_dup G0.1 G0.2.1 dX12_clauseText_123 rfl ?_
                  refine py_get (C := RX12) (T := TX12) (N := 54) (k := 20) (v := .int v_9) G0 hw in_X12_clauseText_X12 rfl h_118 (by decide) (by decide +kernel) rfl dX12_clauseText_124 ?_
                  refine lv_iload_n G0.1 G0.2.1 dX12_clauseText_127 rfl (lv_at hl 0 rfl) ?_
                  refine lv_if_eq (tgt := 135) G0.1 G0.2.1 dX12_clauseText_128 (by decide) (fun c_125 => ?_) (fun c_125 => ?_)
                  · skip
                    have tc_125 := ti_eq c_125
                    refine lv_iconst (v := 1) G0.1 G0.2.1 dX12_clauseText_135 (by decide) ?_
                    refine lv_iadd G0.1 G0.2.1 dX12_clauseText_136 ?_
                    refine lv_topi (fun x_126 ex_126 => ?_)
                    first | have tx_126 := ti_add ex_126 (by omega -splitDisjunctions) (by omega -splitDisjunctions) | skip
                    refine py_put (C := RX12) (T := TX12) (N := 54) (k := 20) (v := .int x_126) (fs' := [.int v_1, .ref (G.2 u 1), .int v_2, .int v_106, .int v_107, .int v_5, .ref (G.2 u 6), .ref (G.2 u 7), .ref (G.2 u 8), .ref (G.2 u 9), .ref (G.2 u 10), .ref (G.2 u 11), .ref (G.2 u 12), .int v_6, .int v_7, .ref (G.2 u 15), .ref (G.2 u 16), .ref (G.2 u 17), .ref (G.2 u 18), .int x_115, .int x_126, .ref (G.2 u 21), .ref (G.2 u 22), .ref (G.2 u 23), .int v_10, .int v_11, .ref (G.2 u 26), .ref (G.2 u 27), .ref (G.2 u 28), .int v_12, .long y_13, .int v_14, .int v_15, .int v_16, .int v_17, .ref (G.2 u 35), .ref (G.2 u 36), .ref (G.2 u 37), .ref (G.2 u 38), .ref (G.2 u 39), .ref (G.2 u 40), .ref (G.2 u 41), .ref (G.2 u 42), .int v_18, .ref (G.2 u 44), .ref (G.2 u 45), .ref (G.2 u 46), .ref (G.2 u 47), .long y_19, .ref (G.2 u 49), .ref (G.2 u 50), .int v_20, .long y_21, .int v_22]) (ty0 := tyX12) G0 hw tyX12_ok nmX12 in_X12_clauseText_X12 rfl h_118 (by decide) (by decide +kernel) rfl rfl rfl rfl (Nat.le_of_ble_eq_true rfl) rfl dX12_clauseText_137 (fun f_127 H_128 locs h_129 x_130 hw => ?_)
                    have hMB := hMB.kp (kp_f (KP.refl.upd hWF x_130 Tu (Or.inl (by decide)) : KP G [13] false f_116 f_127) (wt12_1 hG Tu) (by decide) (by decide) (fun _ => by decide))
                    have h17 := (x_130 _ (hWF _ (by rw [(wt12_17 hG Tu)]; decide)).1 (wf_ne (wt12_17 hG Tu) Tu (by decide))).2.trans h17
                    have h18b := (x_130 _ (hWF _ (by rw [(wt12_18 hG Tu)]; decide)).1 (wf_ne (wt12_18 hG Tu) Tu (by decide))).2.trans h18b
                    have hFK := hFK.put h_118 h_129 20 (by decide) rfl
                    have hKP := hKP.upd hWF x_130 Tu (Or.inl (by decide))
                    have hWF := wf_upd hWF h_129 x_130 (by rw [Tu]; exact ⟨v_1, v_2, v_106, v_107, v_5, v_6, v_7, x_115, x_126, v_10, v_11, v_12, y_13, v_14, v_15, v_16, v_17, v_18, y_19, v_20, y_21, v_22, rfl, ⟨by omega, by omega⟩, ⟨by omega, by omega⟩, ⟨by omega, by omega⟩, ⟨by omega, by omega⟩, ⟨by omega, by omega⟩, ⟨by omega, by omega⟩, ⟨by omega, by omega⟩, ⟨by omega, by omega⟩, ⟨by omega, by omega⟩, ⟨by omega, by omega⟩, ⟨by omega, by omega⟩, ⟨by omega, by omega⟩⟩)
                    have tq_131 := mi_row h_129 2 rfl
                    have tq_132 := mi_row h_129 3 rfl
                    have bv_106 := wf_free v_106
                    have tq_133 := mi_row h_129 4 rfl
                    have bv_107 := wf_free v_107
                    have tq_134 := mi_row h_129 19 rfl
                    have tq_135 := mi_row h_129 20 rfl
                    exact py_vret G0 hr hlk hw ⟨(by first | omega | (intro q; omega)), (fun hrf hw => RFm.step (f1 := f_95) (hrf.same h18a rfl) hPF ((hIT (by omega)).cast (by omega)) (by omega) rfl |>.same h18b (by omega)), (fun hw => cq_k (en_100 (by omega)) (by omega) (by omega) (by omega)), (fun hw => cw_k (en_101 (by omega)) (by omega) (by omega) (by omega)), (fun hw => RD.cl_k (hRD.fam (((PFX.refl.same h18a).trans hPF).same h18b) (by omega) ((arz_kp h18b _).trans (en_100 (by omega)).2.2.2) (by have hz := (hIT (by omega)).2 (by omega); rw [(en_100 (by omega)).2.2.2] at hz; exact hz) h17 (by omega) (by omega)) (by omega) (by omega) rfl), hWF, hKP, hFK⟩ dX12_clauseText_140
                  · skip
                    exact absurd c_125 (by decide)
                · skip
                  exact absurd c_114 (by decide)
              · skip
                exact absurd c_92 (by decide)
            · skip
              exact absurd c_91 (by decide)
          · skip
            have tc_80 := ti_eq c_80
            refine lv_aload_n G0.1 G0.2.1 dX12_clauseText_52 rfl (lv_at hl 2 rfl) ?_
            refine py_callv hw (va_runV (As := []) (rest := []) G0 (c_X12_bad l E G L_41 f_42 H_43.size u hG hWF Tu (show 0 ≤ mi f_42 u 3 by omega)) (cwV 0 G0.2.2.2.2 g_X12_clauseText_X12_bad_143 rfl rfl rfl (by decide +kernel) ⟨(Nat.le_of_ble_eq_true rfl), (Nat.le_of_ble_eq_true rfl)⟩) (py_preV hw (C := RX12) (T := TX12) (N := 54) rfl hr_53) rfl rfl hl.1 rfl (lv_room (Nat.le_of_ble_eq_true rfl)) dX12_clauseText_53 ⟨(Nat.le_of_ble_eq_true rfl), (Nat.le_of_ble_eq_true rfl)⟩) (fun L_136 f_137 H_138 locs hp_139 hw => ?_)
            obtain ⟨en_141, en_142, en_143, hWF, kp_144, fk_145⟩ := hp_139
            have hMB := hMB.kp (kp_f kp_144 (wt12_1 hG Tu) (by decide) (by decide) (fun _ => by decide))
            have h17 := (kp_f kp_144 (wt12_17 hG Tu) (by decide) (by decide) (fun _ => by decide)).trans h17
            have h18 := (kp_f kp_144 (wt12_18 hG Tu) (by decide) (by decide) (fun _ => by decide)).trans h18
            have hFK := hFK.trans fk_145 (by decide)
            have hKP := hKP.trans kp_144 (by decide) (by decide)
            obtain ⟨v_146, hr_147⟩ := fk_4 hWF Tu fk_145 hr_53
            have tq_148 := mi_row hr_147 2 rfl
            have tq_149 := mi_row hr_147 3 rfl
            have bv_52 := wf_free v_52
            have tq_150 := mi_row hr_147 4 rfl
            have bv_146 := wf_free v_146
            have tq_151 := mi_row hr_147 19 rfl
            have tq_152 := mi_row hr_147 20 rfl
            exact py_vret G0 hr hlk hw ⟨(by first | omega | (intro q; omega)), (fun hrf hw => absurd hw (by omega)), (fun hw => absurd hw (by omega)), (fun hw => cw_0 (by omega) (by omega) (by omega)), (fun hw => absurd hw (by omega)), hWF, hKP, hFK⟩ dX12_clauseText_56
        · skip
          exact absurd c_79 (by decide)
  · skip
    have tc_59 := ti_eq c_59
    replace en_47 := en_47 (by omega)
    refine lv_iconst (v := 1) G0.1 G0.2.1 dX12_clauseText_11 (by decide) ?_
    refine lv_goto (tgt := 16) G0.1 G0.2.1 dX12_clauseText_12 (by decide) ?_
    refine lv_istore_n (lv' := [(2, .int 1), (1, .int r_45), (0, .ref u)]) G0.1 G0.2.1 dX12_clauseText_16 rfl hl (by decide) rfl (fun ls hl => ?_)
    refine lv_iload_n G0.1 G0.2.1 dX12_clauseText_17 rfl (lv_at hl 0 rfl) ?_
    refine lv_if_ne (tgt := 27) G0.1 G0.2.1 dX12_clauseText_18 (by decide) (fun c_153 => ?_) (fun c_153 => ?_)
    · skip
      have tc_153 := ti_ne c_153
      refine lv_iload_n G0.1 G0.2.1 dX12_clauseText_27 rfl (lv_at hl 0 rfl) ?_
      refine lv_if_eq (tgt := 43) G0.1 G0.2.1 dX12_clauseText_28 (by decide) (fun c_154 => ?_) (fun c_154 => ?_)
      · skip
        exact absurd c_154 (by decide)
      · skip
        have tc_154 := ti_ne c_154
        refine lv_aload_n G0.1 G0.2.1 dX12_clauseText_31 rfl (lv_at hl 2 rfl) ?_
        refine py_get (C := RX12) (T := TX12) (N := 54) (k := 19) (v := .int v_8) G0 hw in_X12_clauseText_X12 rfl hr_53 (by decide) (by decide +kernel) rfl dX12_clauseText_32 ?_
        refine lv_bipush (v := 8) G0.1 G0.2.1 dX12_clauseText_35 (by decide) ?_
        refine lv_icmp_ne (tgt := 57) G0.1 G0.2.1 dX12_clauseText_37 (by decide) (fun c_155 => ?_) (fun c_155 => ?_)
        · skip
          have tc_155 := ti_ne c_155
          refine lv_aload_n G0.1 G0.2.1 dX12_clauseText_57 rfl (lv_at hl 2 rfl) ?_
          refine lv_dup G0.1 G0.2.1 dX12_clauseText_58 rfl ?_
          refine py_get (C := RX12) (T := TX12) (N := 54) (k := 3) (v := .int v_52) G0 hw in_X12_clauseText_X12 rfl hr_53 (by decide) (by decide +kernel) rfl dX12_clauseText_59 ?_
          refine lv_iconst (v := 1) G0.1 G0.2.1 dX12_clauseText_62 (by decide) ?_
          refine lv_iadd G0.1 G0.2.1 dX12_clauseText_63 ?_
          refine lv_topi (fun x_156 ex_156 => ?_)
          first | have tx_156 := ti_add ex_156 (by omega -splitDisjunctions) (by omega -splitDisjunctions) | skip
          refine py_put (C := RX12) (T := TX12) (N := 54) (k := 3) (v := .int x_156) (fs' := [.int v_1, .ref (G.2 u 1), .int v_2, .int x_156, .int v_4, .int v_5, .ref (G.2 u 6), .ref (G.2 u 7), .ref (G.2 u 8), .ref (G.2 u 9), .ref (G.2 u 10), .ref (G.2 u 11), .ref (G.2 u 12), .int v_6, .int v_7, .ref (G.2 u 15), .ref (G.2 u 16), .ref (G.2 u 17), .ref (G.2 u 18), .int v_8, .int v_9, .ref (G.2 u 21), .ref (G.2 u 22), .ref (G.2 u 23), .int v_10, .int v_11, .ref (G.2 u 26), .ref (G.2 u 27), .ref (G.2 u 28), .int v_12, .long y_13, .int v_14, .int v_15, .int v_16, .int v_17, .ref (G.2 u 35), .ref (G.2 u 36), .ref (G.2 u 37), .ref (G.2 u 38), .ref (G.2 u 39), .ref (G.2 u 40), .ref (G.2 u 41), .ref (G.2 u 42), .int v_18, .ref (G.2 u 44), .ref (G.2 u 45), .ref (G.2 u 46), .ref (G.2 u 47), .long y_19, .ref (G.2 u 49), .ref (G.2 u 50), .int v_20, .long y_21, .int v_22]) (ty0 := tyX12) G0 hw tyX12_ok nmX12 in_X12_clauseText_X12 rfl hr_53 (by decide) (by decide +kernel) rfl rfl rfl rfl (Nat.le_of_ble_eq_true rfl) rfl dX12_clauseText_64 (fun f_157 H_158 locs h_159 x_160 hw => ?_)
          have hMB := hMB.kp (kp_f (KP.refl.upd hWF x_160 Tu (Or.inl (by decide)) : KP G [13] false f_42 f_157) (wt12_1 hG Tu) (by decide) (by decide) (fun _ => by decide))
          have h17 := (x_160 _ (hWF _ (by rw [(wt12_17 hG Tu)]; decide)).1 (wf_ne (wt12_17 hG Tu) Tu (by decide))).2.trans h17
          have h18 := (x_160 _ (hWF _ (by rw [(wt12_18 hG Tu)]; decide)).1 (wf_ne (wt12_18 hG Tu) Tu (by decide))).2.trans h18
          have hFK := hFK.put hr_53 h_159 3 (by decide) rfl
          have hKP := hKP.upd hWF x_160 Tu (Or.inl (by decide))
          have hWF := wf_upd hWF h_159 x_160 (by rw [Tu]; exact ⟨v_1, v_2, x_156, v_4, v_5, v_6, v_7, v_8, v_9, v_10, v_11, v_12, y_13, v_14, v_15, v_16, v_17, v_18, y_19, v_20, y_21, v_22, rfl, ⟨by omega, by omega⟩, ⟨by omega, by omega⟩, ⟨by omega, by omega⟩, ⟨by omega, by omega⟩, ⟨by omega, by omega⟩, ⟨by omega, by omega⟩, ⟨by omega, by omega⟩, ⟨by omega, by omega⟩, ⟨by omega, by omega⟩, ⟨by omega, by omega⟩, ⟨by omega, by omega⟩, ⟨by omega, by omega⟩⟩)
          have tq_161 := mi_row h_159 2 rfl
          have tq_162 := mi_row h_159 3 rfl
          have bx_156 := wf_free x_156
          have tq_163 := mi_row h_159 4 rfl
          have bv_4 := wf_free v_4
          have tq_164 := mi_row h_159 19 rfl
          have tq_165 := mi_row h_159 20 rfl
          refine lv_aload_n G0.1 G0.2.1 dX12_clauseText_67 rfl (lv_at hl 2 rfl) ?_
          refine lv_iload_n G0.1 G0.2.1 dX12_clauseText_68 rfl (lv_at hl 0 rfl) ?_
          refine lv_iload_n G0.1 G0.2.1 dX12_clauseText_69 rfl (lv_at hl 0 rfl) ?_
          refine lv_if_eq (tgt := 80) G0.1 G0.2.1 dX12_clauseText_70 (by decide) (fun c_166 => ?_) (fun c_166 => ?_)
          · skip
            exact absurd c_166 (by decide)
          · skip
            have tc_166 := ti_ne c_166
            refine lv_aload_n G0.1 G0.2.1 dX12_clauseText_73 rfl (lv_at hl 2 rfl) ?_
            refine py_get (C := RX12) (T := TX12) (N := 54) (k := 17) (v := .ref (G.2 u 17)) G0 hw in_X12_clauseText_X12 rfl h_159 (by decide) (by decide +kernel) rfl dX12_clauseText_74 ?_
            refine lv_goto (tgt := 84) G0.1 G0.2.1 dX12_clauseText_77 (by decide) ?_
            refine lv_iconst (v := 4) G0.1 G0.2.1 dX12_clauseText_84 (by decide) ?_
            refine lv_iload_n G0.1 G0.2.1 dX12_clauseText_85 rfl (lv_at hl 0 rfl) ?_
            refine lv_if_eq (tgt := 96) G0.1 G0.2.1 dX12_clauseText_86 (by decide) (fun c_167 => ?_) (fun c_167 => ?_)
            · skip
              exact absurd c_167 (by decide)
            · skip
              have tc_167 := ti_ne c_167
              refine lv_aload_n G0.1 G0.2.1 dX12_clauseText_89 rfl (lv_at hl 2 rfl) ?_
              refine py_get (C := RX12) (T := TX12) (N := 54) (k := 19) (v := .int v_8) G0 hw in_X12_clauseText_X12 rfl h_159 (by decide) (by decide +kernel) rfl dX12_clauseText_90 ?_
              refine lv_goto (tgt := 100) G0.1 G0.2.1 dX12_clauseText_93 (by decide) ?_
              refine lv_imul G0.1 G0.2.1 dX12_clauseText_100 ?_
              refine lv_topi (fun x_168 ex_168 => ?_)
              first | have tx_168 := ti_muld ex_168 kc4 (by omega -splitDisjunctions) (by omega -splitDisjunctions) | skip
              refine py_callv hw (va_runV (As := [.int 1, .ref (G.2 u 17), .int x_168]) (rest := []) G0 (c_X12_items50 l E G L_41 f_157 H_158.size u (G.2 u 17) x_168 gb nb (rs_sk gb nb pb + 1) hG hWF Tu (wt12_17 hG Tu) ⟨by omega, by omega⟩ (show 0 ≤ mi f_157 u 3 ∧ mi f_157 u 3 ≤ mi f_157 u 2 ∧ mi f_157 u 4 = -1 by omega) (show mi f_157 u 3 = (rs_sk gb nb pb + 1) by omega) (show mi f_157 u 2 = nb ∧ 0 ≤ (rs_sk gb nb pb + 1) by omega) hMB) (cwV 3 G0.2.2.2.2 g_X12_clauseText_X12_items_270 rfl rfl rfl (by decide +kernel) ⟨(Nat.le_of_ble_eq_true rfl), (Nat.le_of_ble_eq_true rfl)⟩) (py_preV hw (C := RX12) (T := TX12) (N := 54) rfl h_159) rfl rfl hl.1 rfl (lv_room (Nat.le_of_ble_eq_true rfl)) dX12_clauseText_101 ⟨(Nat.le_of_ble_eq_true rfl), (Nat.le_of_ble_eq_true rfl)⟩) (fun L_169 f_170 H_171 locs hp_172 hw => ?_)
              obtain ⟨en_174, en_175, en_176, en_177, en_178, hWF, kp_179, fk_180⟩ := hp_172
              have hMB := hMB.kp (kp_f kp_179 (wt12_1 hG Tu) (by decide) (by decide) (fun _ => by decide))
              have h18 := (kp_f kp_179 (wt12_18 hG Tu) (by decide) (by decide) (fun _ => by decide)).trans h18
              have hFK := hFK.trans fk_180 (by decide)
              have hKP := hKP.trans kp_179 (by decide) (by decide)
              obtain ⟨v_181, v_182, hr_183⟩ := fk_3_4 hWF Tu fk_180 h_159
              have tq_184 := mi_row hr_183 2 rfl
              have tq_185 := mi_row hr_183 3 rfl
              have bv_181 := wf_free v_181
              have tq_186 := mi_row hr_183 4 rfl
              have bv_182 := wf_free v_182
              have tq_187 := mi_row hr_183 19 rfl
              have tq_188 := mi_row hr_183 20 rfl
              have h17a := h17
              have h17b : f_170 (G.2 u 17) = f_170 (G.2 u 17) := rfl
              have hw4 : mi f_170 u 4 = mi f_170 u 4 := rfl
              have hPF := en_177
              refine lv_aload_n G0.1 G0.2.1 dX12_clauseText_104 rfl (lv_at hl 2 rfl) ?_
              refine lv_dup G0.1 G0.2.1 dX12_clauseText_105 rfl ?_
              refine py_get (C := RX12) (T := TX12) (N := 54) (k := 19) (v := .int v_8) G0 hw in_X12_clauseText_X12 rfl hr_183 (by decide) (by decide +kernel) rfl dX12_clauseText_106 ?_
              refine lv_iload_n G0.1 G0.2.1 dX12_clauseText_109 rfl (lv_at hl 0 rfl) ?_
              refine lv_if_eq (tgt := 117) G0.1 G0.2.1 dX12_clauseText_110 (by decide) (fun c_189 => ?_) (fun c_189 => ?_)
              · skip
                exact absurd c_189 (by decide)
              · skip
                have tc_189 := ti_ne c_189
                refine lv_iconst (v := 1) G0.1 G0.2.1 dX12_clauseText_113 (by decide) ?_
                refine lv_goto (tgt := 118) G0.1 G0.2.1 dX12_clauseText_114 (by decide) ?_
                refine lv_iadd G0.1 G0.2.1 dX12_clauseText_118 ?_
                refine lv_topi (fun x_190 ex_190 => ?_)
                first | have tx_190 := ti_add ex_190 (by omega -splitDisjunctions) (by omega -splitDisjunctions) | skip
                refine py_put (C := RX12) (T := TX12) (N := 54) (k := 19) (v := .int x_190) (fs' := [.int v_1, .ref (G.2 u 1), .int v_2, .int v_181, .int v_182, .int v_5, .ref (G.2 u 6), .ref (G.2 u 7), .ref (G.2 u 8), .ref (G.2 u 9), .ref (G.2 u 10), .ref (G.2 u 11), .ref (G.2 u 12), .int v_6, .int v_7, .ref (G.2 u 15), .ref (G.2 u 16), .ref (G.2 u 17), .ref (G.2 u 18), .int x_190, .int v_9, .ref (G.2 u 21), .ref (G.2 u 22), .ref (G.2 u 23), .int v_10, .int v_11, .ref (G.2 u 26), .ref (G.2 u 27), .ref (G.2 u 28), .int v_12, .long y_13, .int v_14, .int v_15, .int v_16, .int v_17, .ref (G.2 u 35), .ref (G.2 u 36), .ref (G.2 u 37), .ref (G.2 u 38), .ref (G.2 u 39), .ref (G.2 u 40), .ref (G.2 u 41), .ref (G.2 u 42), .int v_18, .ref (G.2 u 44), .ref (G.2 u 45), .ref (G.2 u 46), .ref (G.2 u 47), .long y_19, .ref (G.2 u 49), .ref (G.2 u 50), .int v_20, .long y_21, .int v_22]) (ty0 := tyX12) G0 hw tyX12_ok nmX12 in_X12_clauseText_X12 rfl hr_183 (by decide) (by decide +kernel) rfl rfl rfl rfl (Nat.le_of_ble_eq_true rfl) rfl dX12_clauseText_119 (fun f_191 H_192 locs h_193 x_194 hw => ?_)
                have hMB := hMB.kp (kp_f (KP.refl.upd hWF x_194 Tu (Or.inl (by decide)) : KP G [13] false f_170 f_191) (wt12_1 hG Tu) (by decide) (by decide) (fun _ => by decide))
                have h18 := (x_194 _ (hWF _ (by rw [(wt12_18 hG Tu)]; decide)).1 (wf_ne (wt12_18 hG Tu) Tu (by decide))).2.trans h18
                have h17b := (x_194 _ (hWF _ (by rw [(wt12_17 hG Tu)]; decide)).1 (wf_ne (wt12_17 hG Tu) Tu (by decide))).2.trans h17b
                have hFK := hFK.put hr_183 h_193 19 (by decide) rfl
                have hKP := hKP.upd hWF x_194 Tu (Or.inl (by decide))
                have hWF := wf_upd hWF h_193 x_194 (by rw [Tu]; exact ⟨v_1, v_2, v_181, v_182, v_5, v_6, v_7, x_190, v_9, v_10, v_11, v_12, y_13, v_14, v_15, v_16, v_17, v_18, y_19, v_20, y_21, v_22, rfl, ⟨by omega, by omega⟩, ⟨by omega, by omega⟩, ⟨by omega, by omega⟩, ⟨by omega, by omega⟩, ⟨by omega, by omega⟩, ⟨by omega, by omega⟩, ⟨by omega, by omega⟩, ⟨by omega, by omega⟩, ⟨by omega, by omega⟩, ⟨by omega, by omega⟩, ⟨by omega, by omega⟩, ⟨by omega, by omega⟩⟩)
                have tq_195 := mi_row h_193 2 rfl
                have tq_196 := mi_row h_193 3 rfl
                have bv_181 := wf_free v_181
                have tq_197 := mi_row h_193 4 rfl
                have bv_182 := wf_free v_182
                have tq_198 := mi_row h_193 19 rfl
                have tq_199 := mi_row h_193 20 rfl
                refine lv_aload_n G0.1 G0.2.1 dX12_clauseText_122 rfl (lv_at hl 2 rfl) ?_
                refine lv_dup G0.1 G0.2.1 dX12_clauseText_123 rfl ?_
                refine py_get (C := RX12) (T := TX12) (N := 54) (k := 20) (v := .int v_9) G0 hw in_X12_clauseText_X12 rfl h_193 (by decide) (by decide +kernel) rfl dX12_clauseText_124 ?_
                refine lv_iload_n G0.1 G0.2.1 dX12_clauseText_127 rfl (lv_at hl 0 rfl) ?_
                refine lv_if_eq (tgt := 135) G0.1 G0.2.1 dX12_clauseText_128 (by decide) (fun c_200 => ?_) (fun c_200 => ?_)
                · skip
                  exact absurd c_200 (by decide)
                · skip
                  have tc_200 := ti_ne c_200
                  refine lv_iconst (v := 0) G0.1 G0.2.1 dX12_clauseText_131 (by decide) ?_
                  refine lv_goto (tgt := 136) G0.1 G0.2.1 dX12_clauseText_132 (by decide) ?_
                  refine lv_iadd G0.1 G0.2.1 dX12_clauseText_136 ?_
                  refine lv_topi (fun x_201 ex_201 => ?_)
                  first | have tx_201 := ti_add ex_201 (by omega -splitDisjunctions) (by omega -splitDisjunctions) | skip
                  refine py_put (C := RX12) (T := TX12) (N := 54) (k := 20) (v := .int x_201) (fs' := [.int v_1, .ref (G.2 u 1), .int v_2, .int v_181, .int v_182, .int v_5, .ref (G.2 u 6), .ref (G.2 u 7), .ref (G.2 u 8), .ref (G.2 u 9), .ref (G.2 u 10), .ref (G.2 u 11), .ref (G.2 u 12), .int v_6, .int v_7, .ref (G.2 u 15), .ref (G.2 u 16), .ref (G.2 u 17), .ref (G.2 u 18), .int x_190, .int x_201, .ref (G.2 u 21), .ref (G.2 u 22), .ref (G.2 u 23), .int v_10, .int v_11, .ref (G.2 u 26), .ref (G.2 u 27), .ref (G.2 u 28), .int v_12, .long y_13, .int v_14, .int v_15, .int v_16, .int v_17, .ref (G.2 u 35), .ref (G.2 u 36), .ref (G.2 u 37), .ref (G.2 u 38), .ref (G.2 u 39), .ref (G.2 u 40), .ref (G.2 u 41), .ref (G.2 u 42), .int v_18, .ref (G.2 u 44), .ref (G.2 u 45), .ref (G.2 u 46), .ref (G.2 u 47), .long y_19, .ref (G.2 u 49), .ref (G.2 u 50), .int v_20, .long y_21, .int v_22]) (ty0 := tyX12) G0 hw tyX12_ok nmX12 in_X12_clauseText_X12 rfl h_193 (by decide) (by decide +kernel) rfl rfl rfl rfl (Nat.le_of_ble_eq_true rfl) rfl dX12_clauseText_137 (fun f_202 H_203 locs h_204 x_205 hw => ?_)
                  have hMB := hMB.kp (kp_f (KP.refl.upd hWF x_205 Tu (Or.inl (by decide)) : KP G [13] false f_191 f_202) (wt12_1 hG Tu) (by decide) (by decide) (fun _ => by decide))
                  have h18 := (x_205 _ (hWF _ (by rw [(wt12_18 hG Tu)]; decide)).1 (wf_ne (wt12_18 hG Tu) Tu (by decide))).2.trans h18
                  have h17b := (x_205 _ (hWF _ (by rw [(wt12_17 hG Tu)]; decide)).1 (wf_ne (wt12_17 hG Tu) Tu (by decide))).2.trans h17b
                  have hFK := hFK.put h_193 h_204 20 (by decide) rfl
                  have hKP := hKP.upd hWF x_205 Tu (Or.inl (by decide))
                  have hWF := wf_upd hWF h_204 x_205 (by rw [Tu]; exact ⟨v_1, v_2, v_181, v_182, v_5, v_6, v_7, x_190, x_201, v_10, v_11, v_12, y_13, v_14, v_15, v_16, v_17, v_18, y_19, v_20, y_21, v_22, rfl, ⟨by omega, by omega⟩, ⟨by omega, by omega⟩, ⟨by omega, by omega⟩, ⟨by omega, by omega⟩, ⟨by omega, by omega⟩, ⟨by omega, by omega⟩, ⟨by omega, by omega⟩, ⟨by omega, by omega⟩, ⟨by omega, by omega⟩, ⟨by omega, by omega⟩, ⟨by omega, by omega⟩, ⟨by omega, by omega⟩⟩)
                  have tq_206 := mi_row h_204 2 rfl
                  have tq_207 := mi_row h_204 3 rfl
                  have bv_181 := wf_free v_181
                  have tq_208 := mi_row h_204 4 rfl
                  have bv_182 := wf_free v_182
                  have tq_209 := mi_row h_204 19 rfl
                  have tq_210 := mi_row h_204 20 rfl
                  exact py_vret G0 hr hlk hw ⟨(by first | omega | (intro q; omega)), (fun hrf hw => hrf.same h18 (by omega)), (fun hw => cq_l (en_175 (by omega)) (by omega) (by omega) (by omega)), (fun hw => cw_l (en_176 (by omega)) (by omega) (by omega) (by omega)), (fun hw => RD.cl_l (hRD.lev (((PFX.refl.same h17a).trans hPF).same h17b) (by omega) ((arz_kp h17b _).trans (en_175 (by omega)).2.2.1) (by have hz := en_178 (by omega); rw [(en_175 (by omega)).2.2.1] at hz; exact hz) h18 (by omega) (by omega)) (by omega) (by omega) rfl), hWF, hKP, hFK⟩ dX12_clauseText_140
        · skip
          have tc_155 := ti_eq c_155
          refine lv_goto (tgt := 52) G0.1 G0.2.1 dX12_clauseText_40 (by decide) ?_
          refine lv_aload_n G0.1 G0.2.1 dX12_clauseText_52 rfl (lv_at hl 2 rfl) ?_
          refine py_callv hw (va_runV (As := []) (rest := []) G0 (c_X12_bad l E G L_41 f_42 H_43.size u hG hWF Tu (show 0 ≤ mi f_42 u 3 by omega)) (cwV 0 G0.2.2.2.2 g_X12_clauseText_X12_bad_143 rfl rfl rfl (by decide +kernel) ⟨(Nat.le_of_ble_eq_true rfl), (Nat.le_of_ble_eq_true rfl)⟩) (py_preV hw (C := RX12) (T := TX12) (N := 54) rfl hr_53) rfl rfl hl.1 rfl (lv_room (Nat.le_of_ble_eq_true rfl)) dX12_clauseText_53 ⟨(Nat.le_of_ble_eq_true rfl), (Nat.le_of_ble_eq_true rfl)⟩) (fun L_211 f_212 H_213 locs hp_214 hw => ?_)
          obtain ⟨en_216, en_217, en_218, hWF, kp_219, fk_220⟩ := hp_214
          have hMB := hMB.kp (kp_f kp_219 (wt12_1 hG Tu) (by decide) (by decide) (fun _ => by decide))
          have h17 := (kp_f kp_219 (wt12_17 hG Tu) (by decide) (by decide) (fun _ => by decide)).trans h17
          have h18 := (kp_f kp_219 (wt12_18 hG Tu) (by decide) (by decide) (fun _ => by decide)).trans h18
          have hFK := hFK.trans fk_220 (by decide)
          have hKP := hKP.trans kp_219 (by decide) (by decide)
          obtain ⟨v_221, hr_222⟩ := fk_4 hWF Tu fk_220 hr_53
          have tq_223 := mi_row hr_222 2 rfl
          have tq_224 := mi_row hr_222 3 rfl
          have bv_52 := wf_free v_52
          have tq_225 := mi_row hr_222 4 rfl
          have bv_221 := wf_free v_221
          have tq_226 := mi_row hr_222 19 rfl
          have tq_227 := mi_row hr_222 20 rfl
          exact py_vret G0 hr hlk hw ⟨(by first | omega | (intro q; omega)), (fun hrf hw => absurd hw (by omega)), (fun hw => absurd hw (by omega)), (fun hw => cw_0 (by omega) (by omega) (by omega)), (fun hw => absurd hw (by omega)), hWF, hKP, hFK⟩ dX12_clauseText_56
    · skip
      exact absurd c_153 (by decide)
