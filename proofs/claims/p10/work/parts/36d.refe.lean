theorem dX12_clauseText_0 : decode cX12_clauseText 0 = .ok (.aload_n 0, 1) := by decide +kernel
theorem dX12_clauseText_1 : decode cX12_clauseText 1 = .ok (.invokevirtual 146, 3) := by decide +kernel
theorem dX12_clauseText_4 : decode cX12_clauseText 4 = .ok (.istore_n 1, 1) := by decide +kernel
theorem dX12_clauseText_5 : decode cX12_clauseText 5 = .ok (.iload_n 1, 1) := by decide +kernel
theorem dX12_clauseText_6 : decode cX12_clauseText 6 = .ok (.bipush 108, 2) := by decide +kernel
theorem dX12_clauseText_8 : decode cX12_clauseText 8 = .ok (.if_icmp .ne 7, 3) := by decide +kernel
theorem dX12_clauseText_11 : decode cX12_clauseText 11 = .ok (.iconst 1, 1) := by decide +kernel
theorem dX12_clauseText_12 : decode cX12_clauseText 12 = .ok (.goto 4, 3) := by decide +kernel
theorem dX12_clauseText_15 : decode cX12_clauseText 15 = .ok (.iconst 0, 1) := by decide +kernel
theorem dX12_clauseText_16 : decode cX12_clauseText 16 = .ok (.istore_n 2, 1) := by decide +kernel
theorem dX12_clauseText_17 : decode cX12_clauseText 17 = .ok (.iload_n 2, 1) := by decide +kernel
theorem dX12_clauseText_18 : decode cX12_clauseText 18 = .ok (.ifCond .ne 9, 3) := by decide +kernel
theorem dX12_clauseText_21 : decode cX12_clauseText 21 = .ok (.iload_n 1, 1) := by decide +kernel
theorem dX12_clauseText_22 : decode cX12_clauseText 22 = .ok (.bipush 107, 2) := by decide +kernel
theorem dX12_clauseText_24 : decode cX12_clauseText 24 = .ok (.if_icmp .ne 28, 3) := by decide +kernel
theorem dX12_clauseText_27 : decode cX12_clauseText 27 = .ok (.iload_n 2, 1) := by decide +kernel
theorem dX12_clauseText_28 : decode cX12_clauseText 28 = .ok (.ifCond .eq 15, 3) := by decide +kernel
theorem dX12_clauseText_31 : decode cX12_clauseText 31 = .ok (.aload_n 0, 1) := by decide +kernel
theorem dX12_clauseText_32 : decode cX12_clauseText 32 = .ok (.getfield 264, 3) := by decide +kernel
theorem dX12_clauseText_35 : decode cX12_clauseText 35 = .ok (.bipush 8, 2) := by decide +kernel
theorem dX12_clauseText_37 : decode cX12_clauseText 37 = .ok (.if_icmp .ne 20, 3) := by decide +kernel
theorem dX12_clauseText_40 : decode cX12_clauseText 40 = .ok (.goto 12, 3) := by decide +kernel
theorem dX12_clauseText_43 : decode cX12_clauseText 43 = .ok (.aload_n 0, 1) := by decide +kernel
theorem dX12_clauseText_44 : decode cX12_clauseText 44 = .ok (.getfield 267, 3) := by decide +kernel
theorem dX12_clauseText_47 : decode cX12_clauseText 47 = .ok (.bipush 10, 2) := by decide +kernel
theorem dX12_clauseText_49 : decode cX12_clauseText 49 = .ok (.if_icmp .ne 8, 3) := by decide +kernel
theorem dX12_clauseText_52 : decode cX12_clauseText 52 = .ok (.aload_n 0, 1) := by decide +kernel
theorem dX12_clauseText_53 : decode cX12_clauseText 53 = .ok (.invokevirtual 143, 3) := by decide +kernel
theorem dX12_clauseText_56 : decode cX12_clauseText 56 = .ok (.return_, 1) := by decide +kernel
theorem dX12_clauseText_57 : decode cX12_clauseText 57 = .ok (.aload_n 0, 1) := by decide +kernel
theorem dX12_clauseText_58 : decode cX12_clauseText 58 = .ok (.dup, 1) := by decide +kernel
theorem dX12_clauseText_59 : decode cX12_clauseText 59 = .ok (.getfield 127, 3) := by decide +kernel
theorem dX12_clauseText_62 : decode cX12_clauseText 62 = .ok (.iconst 1, 1) := by decide +kernel
theorem dX12_clauseText_63 : decode cX12_clauseText 63 = .ok (.iadd, 1) := by decide +kernel
theorem dX12_clauseText_64 : decode cX12_clauseText 64 = .ok (.putfield 127, 3) := by decide +kernel
theorem dX12_clauseText_67 : decode cX12_clauseText 67 = .ok (.aload_n 0, 1) := by decide +kernel
theorem dX12_clauseText_68 : decode cX12_clauseText 68 = .ok (.iload_n 2, 1) := by decide +kernel
theorem dX12_clauseText_69 : decode cX12_clauseText 69 = .ok (.iload_n 2, 1) := by decide +kernel
theorem dX12_clauseText_70 : decode cX12_clauseText 70 = .ok (.ifCond .eq 10, 3) := by decide +kernel
theorem dX12_clauseText_73 : decode cX12_clauseText 73 = .ok (.aload_n 0, 1) := by decide +kernel
theorem dX12_clauseText_74 : decode cX12_clauseText 74 = .ok (.getfield 40, 3) := by decide +kernel
theorem dX12_clauseText_77 : decode cX12_clauseText 77 = .ok (.goto 7, 3) := by decide +kernel
theorem dX12_clauseText_80 : decode cX12_clauseText 80 = .ok (.aload_n 0, 1) := by decide +kernel
theorem dX12_clauseText_81 : decode cX12_clauseText 81 = .ok (.getfield 43, 3) := by decide +kernel
theorem dX12_clauseText_84 : decode cX12_clauseText 84 = .ok (.iconst 4, 1) := by decide +kernel
theorem dX12_clauseText_85 : decode cX12_clauseText 85 = .ok (.iload_n 2, 1) := by decide +kernel
theorem dX12_clauseText_86 : decode cX12_clauseText 86 = .ok (.ifCond .eq 10, 3) := by decide +kernel
theorem dX12_clauseText_89 : decode cX12_clauseText 89 = .ok (.aload_n 0, 1) := by decide +kernel
theorem dX12_clauseText_90 : decode cX12_clauseText 90 = .ok (.getfield 264, 3) := by decide +kernel
theorem dX12_clauseText_93 : decode cX12_clauseText 93 = .ok (.goto 7, 3) := by decide +kernel
theorem dX12_clauseText_96 : decode cX12_clauseText 96 = .ok (.aload_n 0, 1) := by decide +kernel
theorem dX12_clauseText_97 : decode cX12_clauseText 97 = .ok (.getfield 267, 3) := by decide +kernel
theorem dX12_clauseText_100 : decode cX12_clauseText 100 = .ok (.imul, 1) := by decide +kernel
theorem dX12_clauseText_101 : decode cX12_clauseText 101 = .ok (.invokevirtual 270, 3) := by decide +kernel
theorem dX12_clauseText_104 : decode cX12_clauseText 104 = .ok (.aload_n 0, 1) := by decide +kernel
theorem dX12_clauseText_105 : decode cX12_clauseText 105 = .ok (.dup, 1) := by decide +kernel
theorem dX12_clauseText_106 : decode cX12_clauseText 106 = .ok (.getfield 264, 3) := by decide +kernel
theorem dX12_clauseText_109 : decode cX12_clauseText 109 = .ok (.iload_n 2, 1) := by decide +kernel
theorem dX12_clauseText_110 : decode cX12_clauseText 110 = .ok (.ifCond .eq 7, 3) := by decide +kernel
theorem dX12_clauseText_113 : decode cX12_clauseText 113 = .ok (.iconst 1, 1) := by decide +kernel
theorem dX12_clauseText_114 : decode cX12_clauseText 114 = .ok (.goto 4, 3) := by decide +kernel
theorem dX12_clauseText_117 : decode cX12_clauseText 117 = .ok (.iconst 0, 1) := by decide +kernel
theorem dX12_clauseText_118 : decode cX12_clauseText 118 = .ok (.iadd, 1) := by decide +kernel
theorem dX12_clauseText_119 : decode cX12_clauseText 119 = .ok (.putfield 264, 3) := by decide +kernel
theorem dX12_clauseText_122 : decode cX12_clauseText 122 = .ok (.aload_n 0, 1) := by decide +kernel
theorem dX12_clauseText_123 : decode cX12_clauseText 123 = .ok (.dup, 1) := by decide +kernel
theorem dX12_clauseText_124 : decode cX12_clauseText 124 = .ok (.getfield 267, 3) := by decide +kernel
theorem dX12_clauseText_127 : decode cX12_clauseText 127 = .ok (.iload_n 2, 1) := by decide +kernel
theorem dX12_clauseText_128 : decode cX12_clauseText 128 = .ok (.ifCond .eq 7, 3) := by decide +kernel
theorem dX12_clauseText_131 : decode cX12_clauseText 131 = .ok (.iconst 0, 1) := by decide +kernel
theorem dX12_clauseText_132 : decode cX12_clauseText 132 = .ok (.goto 4, 3) := by decide +kernel
theorem dX12_clauseText_135 : decode cX12_clauseText 135 = .ok (.iconst 1, 1) := by decide +kernel
theorem dX12_clauseText_136 : decode cX12_clauseText 136 = .ok (.iadd, 1) := by decide +kernel
theorem dX12_clauseText_137 : decode cX12_clauseText 137 = .ok (.putfield 267, 3) := by decide +kernel
theorem dX12_clauseText_140 : decode cX12_clauseText 140 = .ok (.return_, 1) := by decide +kernel
def w_X12_clauseText : List Cond := .code yX12_clauseText cX12_clauseText 3 none :: ([Cond.methodLink RX12 146 yX12_look, Cond.instanceMethod yX12_look, Cond.selects RX12 yX12_look yX12_look, Cond.initialized RX12, Cond.methodLink RX12 143 yX12_bad, Cond.instanceMethod yX12_bad, Cond.selects RX12 yX12_bad yX12_bad, Cond.fieldLink RX12 267 "HeadYearModel" "readFamilies" "I", Cond.fieldLink RX12 127 "HeadYearModel" "at" "I", Cond.fieldLink RX12 43 "HeadYearModel" "readFamily" "[I", Cond.methodLink RX12 270 yX12_items, Cond.instanceMethod yX12_items, Cond.selects RX12 yX12_items yX12_items, Cond.fieldLink RX12 264 "HeadYearModel" "readLevels" "I", Cond.fieldLink RX12 40 "HeadYearModel" "readLevel" "[I"] ++ (u_ws RX12 TX12 54 ++ (w_X12_look ++ (w_X12_bad ++ (w_X12_items ++ ([]))))))
theorem in_X12_clauseText_X12 : ∀ w ∈ u_ws RX12 TX12 54, w ∈ w_X12_clauseText := fun _ h => List.mem_cons_of_mem _ (List.mem_append_right _ (List.mem_append_left _ h))
theorem gg_X12_clauseText_X12_look : GoodIn w_X12_clauseText w_X12_look := goodIn_sub (fun _ h => List.mem_cons_of_mem _ (List.mem_append_right _ (List.mem_append_right _ (List.mem_append_left _ h)))) (by decide +kernel)
theorem gg_X12_clauseText_X12_bad : GoodIn w_X12_clauseText w_X12_bad := goodIn_sub (fun _ h => List.mem_cons_of_mem _ (List.mem_append_right _ (List.mem_append_right _ (List.mem_append_right _ (List.mem_append_left _ h))))) (by decide +kernel)
theorem gg_X12_clauseText_X12_items : GoodIn w_X12_clauseText w_X12_items := goodIn_sub (fun _ h => List.mem_cons_of_mem _ (List.mem_append_right _ (List.mem_append_right _ (List.mem_append_right _ (List.mem_append_right _ (List.mem_append_left _ h)))))) (by decide +kernel)
theorem g_X12_clauseText_X12_bad_143 : GoodIn w_X12_clauseText (wsV RX12 143 RX12 yX12_bad w_X12_bad) := goodIn_app (goodIn_of _ (by decide +kernel)) gg_X12_clauseText_X12_bad
theorem g_X12_clauseText_X12_items_270 : GoodIn w_X12_clauseText (wsV RX12 270 RX12 yX12_items w_X12_items) := goodIn_app (goodIn_of _ (by decide +kernel)) gg_X12_clauseText_X12_items
theorem g_X12_clauseText_X12_look_146 : GoodIn w_X12_clauseText (wsV RX12 146 RX12 yX12_look w_X12_look) := goodIn_app (goodIn_of _ (by decide +kernel)) gg_X12_clauseText_X12_look
set_option maxHeartbeats 4000000 in
set_option maxRecDepth 100000 in
theorem c_X12_clauseText (l : Launch) (E : py_E) (G : wf_G) (L : List Nat) (f : py_F) (sz : Nat) (u : Nat) (hG : GT G) (hWF : WF E G L f) (Tu : G.1 u = 13) (hp0 : 0 ≤ mi f u 3 ∧ mi f u 3 ≤ mi f u 2 ∧ mi f u 4 = -1) : Met l yX12_clauseText w_X12_clauseText ({ frames := 4, cells := 0, slots := 0, locals := 89 }) (py_Pc E [.ref u] L f sz) (py_Qv E L f sz (fun L1 f1 => (mi f u 3 ≤ mi f1 u 3 ∧ mi f1 u 3 ≤ mi f u 2) ∧ (RFm f G u (mi f u 20) → mi f1 u 4 = -1 → RFm f1 G u (mi f1 u 20)) ∧ WF E G L1 f1 ∧ KP G [50, 51, 13] false f f1 ∧ FK [3, 4, 19, 20] f f1 u)) 0 0 (va_A (va_pl L f) sz) := by
  refine Met.ofW (cc := cX12_clauseText) (maxL := 3) (ret := none) (by decide) rfl ?_
  intro p e s m args below meth c s₁ B hml hv
  obtain ⟨rfl, rfl, hw⟩ := py_start hv
  have G0 : CallFix p m c cX12_clauseText 3 s _ w_X12_clauseText RX12 := ⟨B.exec, B.bytes, hml, findClass_of_methodNamed B.named, atoms_spec (ws := w_X12_clauseText) B.pre⟩
  have hr := B.returns
  have hlk := B.notSynchronized
  have kcm1 : (-1 : Int32).toInt = -1 := rfl
  have kc0 : (0 : Int32).toInt = 0 := rfl
  have kc1 : (1 : Int32).toInt = 1 := rfl
  have kc4 : (4 : Int32).toInt = 4 := rfl
  have kc8 : (8 : Int32).toInt = 8 := rfl
  have kc10 : (10 : Int32).toInt = 10 := rfl
  have kc107 : (107 : Int32).toInt = 107 := rfl
  have kc108 : (108 : Int32).toInt = 108 := rfl
  have hl := lv_entry ([.ref u]) (n := 3) (Nat.le_of_ble_eq_true rfl)
  rw [lg_entry_eq]
  generalize (lg_sl ([.ref u]) ++ List.replicate (3 - (lg_sl ([.ref u])).length) Slot.unset).toArray = ls at hl ⊢
  have hl : lv_has ls 3 [(0, .ref u)] := hl
  have hFK : FK [3, 4, 19, 20] f f u := FK.refl
  have hKP : KP G [50, 51, 13] false f f := KP.refl
  have h18 : f (G.2 u 18) = f (G.2 u 18) := rfl
  refine lv_aload_n G0.1 G0.2.1 dX12_clauseText_0 rfl (lv_at hl 0 rfl) ?_
  obtain ⟨v_1, v_2, v_3, v_4, v_5, v_6, v_7, v_8, v_9, v_10, v_11, v_12, y_13, v_14, v_15, v_16, v_17, v_18, y_19, v_20, y_21, v_22, hr_35, b_23, b_24, b_25, b_26, b_27, b_28, b_29, b_30, b_31, b_32, b_33, b_34⟩ := wg_12 hWF Tu
  have tq_36 := mi_row hr_35 2 rfl
  have tq_37 := mi_row hr_35 3 rfl
  have bv_3 := wf_free v_3
  have tq_38 := mi_row hr_35 4 rfl
  have bv_4 := wf_free v_4
  have tq_39 := mi_row hr_35 19 rfl
  have tq_40 := mi_row hr_35 20 rfl
  refine py_calli hw (va_runV (As := []) (rest := []) G0 (c_X12_look l E G L f s.heap.size u hG hWF Tu (show 0 ≤ mi f u 3 ∧ mi f u 3 ≤ mi f u 2 by omega)) (cwV 0 G0.2.2.2.2 g_X12_clauseText_X12_look_146 rfl rfl rfl (by decide +kernel) ⟨(Nat.le_of_ble_eq_true rfl), (Nat.le_of_ble_eq_true rfl)⟩) (py_preV hw (C := RX12) (T := TX12) (N := 54) rfl hr_35) rfl rfl hl.1 rfl (lv_room (Nat.le_of_ble_eq_true rfl)) dX12_clauseText_1 ⟨(Nat.le_of_ble_eq_true rfl), (Nat.le_of_ble_eq_true rfl)⟩) (fun r_45 L_41 f_42 H_43 locs hp_44 hw => ?_)
  obtain ⟨en_46, en_47, en_48, hWF, kp_49, fk_50⟩ := hp_44
  have h18 := (kp_f kp_49 (wt12_18 hG Tu) (by decide) (by decide) (fun _ => by decide)).trans h18
  have hFK := hFK.trans fk_50 (by decide)
  have hKP := hKP.trans kp_49 (by decide) (by decide)
  obtain ⟨v_51, hr_52⟩ := fk_3 hWF Tu fk_50 hr_35
  have tq_53 := mi_row hr_52 2 rfl
  have tq_54 := mi_row hr_52 3 rfl
  have bv_51 := wf_free v_51
  have tq_55 := mi_row hr_52 4 rfl
  have bv_4 := wf_free v_4
  have tq_56 := mi_row hr_52 19 rfl
  have tq_57 := mi_row hr_52 20 rfl
  have br_45 := wf_free r_45
  refine lv_istore_n (lv' := [(1, .int r_45), (0, .ref u)]) G0.1 G0.2.1 dX12_clauseText_4 rfl hl (by decide) rfl (fun ls hl => ?_)
  refine lv_iload_n G0.1 G0.2.1 dX12_clauseText_5 rfl (lv_at hl 0 rfl) ?_
  refine lv_bipush (v := 108) G0.1 G0.2.1 dX12_clauseText_6 (by decide) ?_
  refine lv_icmp_ne (tgt := 15) G0.1 G0.2.1 dX12_clauseText_8 (by decide) (fun c_58 => ?_) (fun c_58 => ?_)
  · skip
    have tc_58 := ti_ne c_58
    refine lv_iconst (v := 0) G0.1 G0.2.1 dX12_clauseText_15 (by decide) ?_
    refine lv_istore_n (lv' := [(2, .int 0), (1, .int r_45), (0, .ref u)]) G0.1 G0.2.1 dX12_clauseText_16 rfl hl (by decide) rfl (fun ls hl => ?_)
    refine lv_iload_n G0.1 G0.2.1 dX12_clauseText_17 rfl (lv_at hl 0 rfl) ?_
    refine lv_if_ne (tgt := 27) G0.1 G0.2.1 dX12_clauseText_18 (by decide) (fun c_59 => ?_) (fun c_59 => ?_)
    · skip
      exact absurd c_59 (by decide)
    · skip
      have tc_59 := ti_eq c_59
      refine lv_iload_n G0.1 G0.2.1 dX12_clauseText_21 rfl (lv_at hl 1 rfl) ?_
      refine lv_bipush (v := 107) G0.1 G0.2.1 dX12_clauseText_22 (by decide) ?_
      refine lv_icmp_ne (tgt := 52) G0.1 G0.2.1 dX12_clauseText_24 (by decide) (fun c_60 => ?_) (fun c_60 => ?_)
      · skip
        have tc_60 := ti_ne c_60
        refine lv_aload_n G0.1 G0.2.1 dX12_clauseText_52 rfl (lv_at hl 2 rfl) ?_
        refine py_callv hw (va_runV (As := []) (rest := []) G0 (c_X12_bad l E G L_41 f_42 H_43.size u hG hWF Tu (show 0 ≤ mi f_42 u 3 by omega)) (cwV 0 G0.2.2.2.2 g_X12_clauseText_X12_bad_143 rfl rfl rfl (by decide +kernel) ⟨(Nat.le_of_ble_eq_true rfl), (Nat.le_of_ble_eq_true rfl)⟩) (py_preV hw (C := RX12) (T := TX12) (N := 54) rfl hr_52) rfl rfl hl.1 rfl (lv_room (Nat.le_of_ble_eq_true rfl)) dX12_clauseText_53 ⟨(Nat.le_of_ble_eq_true rfl), (Nat.le_of_ble_eq_true rfl)⟩) (fun L_61 f_62 H_63 locs hp_64 hw => ?_)
        obtain ⟨en_66, en_67, hWF, kp_68, fk_69⟩ := hp_64
        have h18 := (kp_f kp_68 (wt12_18 hG Tu) (by decide) (by decide) (fun _ => by decide)).trans h18
        have hFK := hFK.trans fk_69 (by decide)
        have hKP := hKP.trans kp_68 (by decide) (by decide)
        obtain ⟨v_70, hr_71⟩ := fk_4 hWF Tu fk_69 hr_52
        have tq_72 := mi_row hr_71 2 rfl
        have tq_73 := mi_row hr_71 3 rfl
        have bv_51 := wf_free v_51
        have tq_74 := mi_row hr_71 4 rfl
        have bv_70 := wf_free v_70
        have tq_75 := mi_row hr_71 19 rfl
        have tq_76 := mi_row hr_71 20 rfl
        exact py_vret G0 hr hlk hw ⟨(by first | omega | (intro q; omega)), (fun hrf hw => hrf.same h18 (by omega)), hWF, hKP, hFK⟩ dX12_clauseText_56
      · skip
        have tc_60 := ti_eq c_60
        replace en_47 := en_47 (by omega)
        refine lv_iload_n G0.1 G0.2.1 dX12_clauseText_27 rfl (lv_at hl 0 rfl) ?_
        refine lv_if_eq (tgt := 43) G0.1 G0.2.1 dX12_clauseText_28 (by decide) (fun c_77 => ?_) (fun c_77 => ?_)
        · skip
          have tc_77 := ti_eq c_77
          refine lv_aload_n G0.1 G0.2.1 dX12_clauseText_43 rfl (lv_at hl 2 rfl) ?_
          refine py_get (C := RX12) (T := TX12) (N := 54) (k := 20) (v := .int v_9) G0 hw in_X12_clauseText_X12 rfl hr_52 (by decide) (by decide +kernel) rfl dX12_clauseText_44 ?_
          refine lv_bipush (v := 10) G0.1 G0.2.1 dX12_clauseText_47 (by decide) ?_
          refine lv_icmp_ne (tgt := 57) G0.1 G0.2.1 dX12_clauseText_49 (by decide) (fun c_78 => ?_) (fun c_78 => ?_)
          · skip
            have tc_78 := ti_ne c_78
            refine lv_aload_n G0.1 G0.2.1 dX12_clauseText_57 rfl (lv_at hl 2 rfl) ?_
            refine lv_dup G0.1 G0.2.1 dX12_clauseText_58 rfl ?_
            refine py_get (C := RX12) (T := TX12) (N := 54) (k := 3) (v := .int v_51) G0 hw in_X12_clauseText_X12 rfl hr_52 (by decide) (by decide +kernel) rfl dX12_clauseText_59 ?_
            refine lv_iconst (v := 1) G0.1 G0.2.1 dX12_clauseText_62 (by decide) ?_
            refine lv_iadd G0.1 G0.2.1 dX12_clauseText_63 ?_
            refine lv_topi (fun x_79 ex_79 => ?_)
            first | have tx_79 := ti_add ex_79 (by omega -splitDisjunctions) (by omega -splitDisjunctions) | skip
            refine py_put (C := RX12) (T := TX12) (N := 54) (k := 3) (v := .int x_79) (fs' := [.int v_1, .ref (G.2 u 1), .int v_2, .int x_79, .int v_4, .int v_5, .ref (G.2 u 6), .ref (G.2 u 7), .ref (G.2 u 8), .ref (G.2 u 9), .ref (G.2 u 10), .ref (G.2 u 11), .ref (G.2 u 12), .int v_6, .int v_7, .ref (G.2 u 15), .ref (G.2 u 16), .ref (G.2 u 17), .ref (G.2 u 18), .int v_8, .int v_9, .ref (G.2 u 21), .ref (G.2 u 22), .ref (G.2 u 23), .int v_10, .int v_11, .ref (G.2 u 26), .ref (G.2 u 27), .ref (G.2 u 28), .int v_12, .long y_13, .int v_14, .int v_15, .int v_16, .int v_17, .ref (G.2 u 35), .ref (G.2 u 36), .ref (G.2 u 37), .ref (G.2 u 38), .ref (G.2 u 39), .ref (G.2 u 40), .ref (G.2 u 41), .ref (G.2 u 42), .int v_18, .ref (G.2 u 44), .ref (G.2 u 45), .ref (G.2 u 46), .ref (G.2 u 47), .long y_19, .ref (G.2 u 49), .ref (G.2 u 50), .int v_20, .long y_21, .int v_22]) (ty0 := tyX12) G0 hw tyX12_ok nmX12 in_X12_clauseText_X12 rfl hr_52 (by decide) (by decide +kernel) rfl rfl rfl rfl (Nat.le_of_ble_eq_true rfl) rfl dX12_clauseText_64 (fun f_80 H_81 locs h_82 x_83 hw => ?_)
            have h18 := (x_83 _ (hWF _ (by rw [(wt12_18 hG Tu)]; decide)).1 (wf_ne (wt12_18 hG Tu) Tu (by decide))).2.trans h18
            have hFK := hFK.put hr_52 h_82 3 (by decide) rfl
            have hKP := hKP.upd hWF x_83 Tu (Or.inl (by decide))
            have hWF := wf_upd hWF h_82 x_83 (by rw [Tu]; exact ⟨v_1, v_2, x_79, v_4, v_5, v_6, v_7, v_8, v_9, v_10, v_11, v_12, y_13, v_14, v_15, v_16, v_17, v_18, y_19, v_20, y_21, v_22, rfl, ⟨by omega, by omega⟩, ⟨by omega, by omega⟩, ⟨by omega, by omega⟩, ⟨by omega, by omega⟩, ⟨by omega, by omega⟩, ⟨by omega, by omega⟩, ⟨by omega, by omega⟩, ⟨by omega, by omega⟩, ⟨by omega, by omega⟩, ⟨by omega, by omega⟩, ⟨by omega, by omega⟩, ⟨by omega, by omega⟩⟩)
            have tq_84 := mi_row h_82 2 rfl
            have tq_85 := mi_row h_82 3 rfl
            have bx_79 := wf_free x_79
            have tq_86 := mi_row h_82 4 rfl
            have bv_4 := wf_free v_4
            have tq_87 := mi_row h_82 19 rfl
            have tq_88 := mi_row h_82 20 rfl
            refine lv_aload_n G0.1 G0.2.1 dX12_clauseText_67 rfl (lv_at hl 2 rfl) ?_
            refine lv_iload_n G0.1 G0.2.1 dX12_clauseText_68 rfl (lv_at hl 0 rfl) ?_
            refine lv_iload_n G0.1 G0.2.1 dX12_clauseText_69 rfl (lv_at hl 0 rfl) ?_
            refine lv_if_eq (tgt := 80) G0.1 G0.2.1 dX12_clauseText_70 (by decide) (fun c_89 => ?_) (fun c_89 => ?_)
            · skip
              have tc_89 := ti_eq c_89
              refine lv_aload_n G0.1 G0.2.1 dX12_clauseText_80 rfl (lv_at hl 2 rfl) ?_
              refine py_get (C := RX12) (T := TX12) (N := 54) (k := 18) (v := .ref (G.2 u 18)) G0 hw in_X12_clauseText_X12 rfl h_82 (by decide) (by decide +kernel) rfl dX12_clauseText_81 ?_
              refine lv_iconst (v := 4) G0.1 G0.2.1 dX12_clauseText_84 (by decide) ?_
              refine lv_iload_n G0.1 G0.2.1 dX12_clauseText_85 rfl (lv_at hl 0 rfl) ?_
              refine lv_if_eq (tgt := 96) G0.1 G0.2.1 dX12_clauseText_86 (by decide) (fun c_90 => ?_) (fun c_90 => ?_)
              · skip
                have tc_90 := ti_eq c_90
                refine lv_aload_n G0.1 G0.2.1 dX12_clauseText_96 rfl (lv_at hl 2 rfl) ?_
                refine py_get (C := RX12) (T := TX12) (N := 54) (k := 20) (v := .int v_9) G0 hw in_X12_clauseText_X12 rfl h_82 (by decide) (by decide +kernel) rfl dX12_clauseText_97 ?_
                refine lv_imul G0.1 G0.2.1 dX12_clauseText_100 ?_
                refine lv_topi (fun x_91 ex_91 => ?_)
                first | have tx_91 := ti_muld ex_91 kc4 (by omega -splitDisjunctions) (by omega -splitDisjunctions) | skip
                refine py_callv hw (va_runV (As := [.int 0, .ref (G.2 u 18), .int x_91]) (rest := []) G0 (c_X12_items51 l E G L_41 f_80 H_81.size u (G.2 u 18) x_91 hG hWF Tu (wt12_18 hG Tu) ⟨by omega, by omega⟩ (show 0 ≤ mi f_80 u 3 ∧ mi f_80 u 3 ≤ mi f_80 u 2 ∧ mi f_80 u 4 = -1 by omega)) (cwV 3 G0.2.2.2.2 g_X12_clauseText_X12_items_270 rfl rfl rfl (by decide +kernel) ⟨(Nat.le_of_ble_eq_true rfl), (Nat.le_of_ble_eq_true rfl)⟩) (py_preV hw (C := RX12) (T := TX12) (N := 54) rfl h_82) rfl rfl hl.1 rfl (lv_room (Nat.le_of_ble_eq_true rfl)) dX12_clauseText_101 ⟨(Nat.le_of_ble_eq_true rfl), (Nat.le_of_ble_eq_true rfl)⟩) (fun L_92 f_93 H_94 locs hp_95 hw => ?_)
                obtain ⟨en_97, en_98, en_99, hWF, kp_100, fk_101⟩ := hp_95
                have hFK := hFK.trans fk_101 (by decide)
                have hKP := hKP.trans kp_100 (by decide) (by decide)
                obtain ⟨v_102, v_103, hr_104⟩ := fk_3_4 hWF Tu fk_101 h_82
                have tq_105 := mi_row hr_104 2 rfl
                have tq_106 := mi_row hr_104 3 rfl
                have bv_102 := wf_free v_102
                have tq_107 := mi_row hr_104 4 rfl
                have bv_103 := wf_free v_103
                have tq_108 := mi_row hr_104 19 rfl
                have tq_109 := mi_row hr_104 20 rfl
                have hIT := en_98
                have hPF := en_99
                have h18b : f_93 (G.2 u 18) = f_93 (G.2 u 18) := rfl
                have h18a := h18
                have hw4 : mi f_93 u 4 = mi f_93 u 4 := rfl
                refine lv_aload_n G0.1 G0.2.1 dX12_clauseText_104 rfl (lv_at hl 2 rfl) ?_
                refine lv_dup G0.1 G0.2.1 dX12_clauseText_105 rfl ?_
                refine py_get (C := RX12) (T := TX12) (N := 54) (k := 19) (v := .int v_8) G0 hw in_X12_clauseText_X12 rfl hr_104 (by decide) (by decide +kernel) rfl dX12_clauseText_106 ?_
                refine lv_iload_n G0.1 G0.2.1 dX12_clauseText_109 rfl (lv_at hl 0 rfl) ?_
                refine lv_if_eq (tgt := 117) G0.1 G0.2.1 dX12_clauseText_110 (by decide) (fun c_110 => ?_) (fun c_110 => ?_)
                · skip
                  have tc_110 := ti_eq c_110
                  refine lv_iconst (v := 0) G0.1 G0.2.1 dX12_clauseText_117 (by decide) ?_
                  refine lv_iadd G0.1 G0.2.1 dX12_clauseText_118 ?_
                  refine lv_topi (fun x_111 ex_111 => ?_)
                  first | have tx_111 := ti_add ex_111 (by omega -splitDisjunctions) (by omega -splitDisjunctions) | skip
                  refine py_put (C := RX12) (T := TX12) (N := 54) (k := 19) (v := .int x_111) (fs' := [.int v_1, .ref (G.2 u 1), .int v_2, .int v_102, .int v_103, .int v_5, .ref (G.2 u 6), .ref (G.2 u 7), .ref (G.2 u 8), .ref (G.2 u 9), .ref (G.2 u 10), .ref (G.2 u 11), .ref (G.2 u 12), .int v_6, .int v_7, .ref (G.2 u 15), .ref (G.2 u 16), .ref (G.2 u 17), .ref (G.2 u 18), .int x_111, .int v_9, .ref (G.2 u 21), .ref (G.2 u 22), .ref (G.2 u 23), .int v_10, .int v_11, .ref (G.2 u 26), .ref (G.2 u 27), .ref (G.2 u 28), .int v_12, .long y_13, .int v_14, .int v_15, .int v_16, .int v_17, .ref (G.2 u 35), .ref (G.2 u 36), .ref (G.2 u 37), .ref (G.2 u 38), .ref (G.2 u 39), .ref (G.2 u 40), .ref (G.2 u 41), .ref (G.2 u 42), .int v_18, .ref (G.2 u 44), .ref (G.2 u 45), .ref (G.2 u 46), .ref (G.2 u 47), .long y_19, .ref (G.2 u 49), .ref (G.2 u 50), .int v_20, .long y_21, .int v_22]) (ty0 := tyX12) G0 hw tyX12_ok nmX12 in_X12_clauseText_X12 rfl hr_104 (by decide) (by decide +kernel) rfl rfl rfl rfl (Nat.le_of_ble_eq_true rfl) rfl dX12_clauseText_119 (fun f_112 H_113 locs h_114 x_115 hw => ?_)
                  have h18b := (x_115 _ (hWF _ (by rw [(wt12_18 hG Tu)]; decide)).1 (wf_ne (wt12_18 hG Tu) Tu (by decide))).2.trans h18b
                  have hFK := hFK.put hr_104 h_114 19 (by decide) rfl
                  have hKP := hKP.upd hWF x_115 Tu (Or.inl (by decide))
                  have hWF := wf_upd hWF h_114 x_115 (by rw [Tu]; exact ⟨v_1, v_2, v_102, v_103, v_5, v_6, v_7, x_111, v_9, v_10, v_11, v_12, y_13, v_14, v_15, v_16, v_17, v_18, y_19, v_20, y_21, v_22, rfl, ⟨by omega, by omega⟩, ⟨by omega, by omega⟩, ⟨by omega, by omega⟩, ⟨by omega, by omega⟩, ⟨by omega, by omega⟩, ⟨by omega, by omega⟩, ⟨by omega, by omega⟩, ⟨by omega, by omega⟩, ⟨by omega, by omega⟩, ⟨by omega, by omega⟩, ⟨by omega, by omega⟩, ⟨by omega, by omega⟩⟩)
                  have tq_116 := mi_row h_114 2 rfl
                  have tq_117 := mi_row h_114 3 rfl
                  have bv_102 := wf_free v_102
                  have tq_118 := mi_row h_114 4 rfl
                  have bv_103 := wf_free v_103
                  have tq_119 := mi_row h_114 19 rfl
                  have tq_120 := mi_row h_114 20 rfl
                  refine lv_aload_n G0.1 G0.2.1 dX12_clauseText_122 rfl (lv_at hl 2 rfl) ?_
                  refine lv_dup G0.1 G0.2.1 dX12_clauseText_123 rfl ?_
                  refine py_get (C := RX12) (T := TX12) (N := 54) (k := 20) (v := .int v_9) G0 hw in_X12_clauseText_X12 rfl h_114 (by decide) (by decide +kernel) rfl dX12_clauseText_124 ?_
                  refine lv_iload_n G0.1 G0.2.1 dX12_clauseText_127 rfl (lv_at hl 0 rfl) ?_
                  refine lv_if_eq (tgt := 135) G0.1 G0.2.1 dX12_clauseText_128 (by decide) (fun c_121 => ?_) (fun c_121 => ?_)
                  · skip
                    have tc_121 := ti_eq c_121
                    refine lv_iconst (v := 1) G0.1 G0.2.1 dX12_clauseText_135 (by decide) ?_
                    refine lv_iadd G0.1 G0.2.1 dX12_clauseText_136 ?_
                    refine lv_topi (fun x_122 ex_122 => ?_)
                    first | have tx_122 := ti_add ex_122 (by omega -splitDisjunctions) (by omega -splitDisjunctions) | skip
                    refine py_put (C := RX12) (T := TX12) (N := 54) (k := 20) (v := .int x_122) (fs' := [.int v_1, .ref (G.2 u 1), .int v_2, .int v_102, .int v_103, .int v_5, .ref (G.2 u 6), .ref (G.2 u 7), .ref (G.2 u 8), .ref (G.2 u 9), .ref (G.2 u 10), .ref (G.2 u 11), .ref (G.2 u 12), .int v_6, .int v_7, .ref (G.2 u 15), .ref (G.2 u 16), .ref (G.2 u 17), .ref (G.2 u 18), .int x_111, .int x_122, .ref (G.2 u 21), .ref (G.2 u 22), .ref (G.2 u 23), .int v_10, .int v_11, .ref (G.2 u 26), .ref (G.2 u 27), .ref (G.2 u 28), .int v_12, .long y_13, .int v_14, .int v_15, .int v_16, .int v_17, .ref (G.2 u 35), .ref (G.2 u 36), .ref (G.2 u 37), .ref (G.2 u 38), .ref (G.2 u 39), .ref (G.2 u 40), .ref (G.2 u 41), .ref (G.2 u 42), .int v_18, .ref (G.2 u 44), .ref (G.2 u 45), .ref (G.2 u 46), .ref (G.2 u 47), .long y_19, .ref (G.2 u 49), .ref (G.2 u 50), .int v_20, .long y_21, .int v_22]) (ty0 := tyX12) G0 hw tyX12_ok nmX12 in_X12_clauseText_X12 rfl h_114 (by decide) (by decide +kernel) rfl rfl rfl rfl (Nat.le_of_ble_eq_true rfl) rfl dX12_clauseText_137 (fun f_123 H_124 locs h_125 x_126 hw => ?_)
                    have h18b := (x_126 _ (hWF _ (by rw [(wt12_18 hG Tu)]; decide)).1 (wf_ne (wt12_18 hG Tu) Tu (by decide))).2.trans h18b
                    have hFK := hFK.put h_114 h_125 20 (by decide) rfl
                    have hKP := hKP.upd hWF x_126 Tu (Or.inl (by decide))
                    have hWF := wf_upd hWF h_125 x_126 (by rw [Tu]; exact ⟨v_1, v_2, v_102, v_103, v_5, v_6, v_7, x_111, x_122, v_10, v_11, v_12, y_13, v_14, v_15, v_16, v_17, v_18, y_19, v_20, y_21, v_22, rfl, ⟨by omega, by omega⟩, ⟨by omega, by omega⟩, ⟨by omega, by omega⟩, ⟨by omega, by omega⟩, ⟨by omega, by omega⟩, ⟨by omega, by omega⟩, ⟨by omega, by omega⟩, ⟨by omega, by omega⟩, ⟨by omega, by omega⟩, ⟨by omega, by omega⟩, ⟨by omega, by omega⟩, ⟨by omega, by omega⟩⟩)
                    have tq_127 := mi_row h_125 2 rfl
                    have tq_128 := mi_row h_125 3 rfl
                    have bv_102 := wf_free v_102
                    have tq_129 := mi_row h_125 4 rfl
                    have bv_103 := wf_free v_103
                    have tq_130 := mi_row h_125 19 rfl
                    have tq_131 := mi_row h_125 20 rfl
                    exact py_vret G0 hr hlk hw ⟨(by first | omega | (intro q; omega)), (fun hrf hw => RFm.step (f1 := f_93) (hrf.same h18a rfl) hPF ((hIT (by omega)).cast (by omega)) (by omega) rfl |>.same h18b (by omega)), hWF, hKP, hFK⟩ dX12_clauseText_140
                  · skip
                    exact absurd c_121 (by decide)
                · skip
                  exact absurd c_110 (by decide)
              · skip
                exact absurd c_90 (by decide)
            · skip
              exact absurd c_89 (by decide)
          · skip
            have tc_78 := ti_eq c_78
            refine lv_aload_n G0.1 G0.2.1 dX12_clauseText_52 rfl (lv_at hl 2 rfl) ?_
            refine py_callv hw (va_runV (As := []) (rest := []) G0 (c_X12_bad l E G L_41 f_42 H_43.size u hG hWF Tu (show 0 ≤ mi f_42 u 3 by omega)) (cwV 0 G0.2.2.2.2 g_X12_clauseText_X12_bad_143 rfl rfl rfl (by decide +kernel) ⟨(Nat.le_of_ble_eq_true rfl), (Nat.le_of_ble_eq_true rfl)⟩) (py_preV hw (C := RX12) (T := TX12) (N := 54) rfl hr_52) rfl rfl hl.1 rfl (lv_room (Nat.le_of_ble_eq_true rfl)) dX12_clauseText_53 ⟨(Nat.le_of_ble_eq_true rfl), (Nat.le_of_ble_eq_true rfl)⟩) (fun L_132 f_133 H_134 locs hp_135 hw => ?_)
            obtain ⟨en_137, en_138, hWF, kp_139, fk_140⟩ := hp_135
            have h18 := (kp_f kp_139 (wt12_18 hG Tu) (by decide) (by decide) (fun _ => by decide)).trans h18
            have hFK := hFK.trans fk_140 (by decide)
            have hKP := hKP.trans kp_139 (by decide) (by decide)
            obtain ⟨v_141, hr_142⟩ := fk_4 hWF Tu fk_140 hr_52
            have tq_143 := mi_row hr_142 2 rfl
            have tq_144 := mi_row hr_142 3 rfl
            have bv_51 := wf_free v_51
            have tq_145 := mi_row hr_142 4 rfl
            have bv_141 := wf_free v_141
            have tq_146 := mi_row hr_142 19 rfl
            have tq_147 := mi_row hr_142 20 rfl
            exact py_vret G0 hr hlk hw ⟨(by first | omega | (intro q; omega)), (fun hrf hw => hrf.same h18 (by omega)), hWF, hKP, hFK⟩ dX12_clauseText_56
        · skip
          exact absurd c_77 (by decide)
  · skip
    have tc_58 := ti_eq c_58
    replace en_47 := en_47 (by omega)
    refine lv_iconst (v := 1) G0.1 G0.2.1 dX12_clauseText_11 (by decide) ?_
    refine lv_goto (tgt := 16) G0.1 G0.2.1 dX12_clauseText_12 (by decide) ?_
    refine lv_istore_n (lv' := [(2, .int 1), (1, .int r_45), (0, .ref u)]) G0.1 G0.2.1 dX12_clauseText_16 rfl hl (by decide) rfl (fun ls hl => ?_)
    refine lv_iload_n G0.1 G0.2.1 dX12_clauseText_17 rfl (lv_at hl 0 rfl) ?_
    refine lv_if_ne (tgt := 27) G0.1 G0.2.1 dX12_clauseText_18 (by decide) (fun c_148 => ?_) (fun c_148 => ?_)
    · skip
      have tc_148 := ti_ne c_148
      refine lv_iload_n G0.1 G0.2.1 dX12_clauseText_27 rfl (lv_at hl 0 rfl) ?_
      refine lv_if_eq (tgt := 43) G0.1 G0.2.1 dX12_clauseText_28 (by decide) (fun c_149 => ?_) (fun c_149 => ?_)
      · skip
        exact absurd c_149 (by decide)
      · skip
        have tc_149 := ti_ne c_149
        refine lv_aload_n G0.1 G0.2.1 dX12_clauseText_31 rfl (lv_at hl 2 rfl) ?_
        refine py_get (C := RX12) (T := TX12) (N := 54) (k := 19) (v := .int v_8) G0 hw in_X12_clauseText_X12 rfl hr_52 (by decide) (by decide +kernel) rfl dX12_clauseText_32 ?_
        refine lv_bipush (v := 8) G0.1 G0.2.1 dX12_clauseText_35 (by decide) ?_
        refine lv_icmp_ne (tgt := 57) G0.1 G0.2.1 dX12_clauseText_37 (by decide) (fun c_150 => ?_) (fun c_150 => ?_)
        · skip
          have tc_150 := ti_ne c_150
          refine lv_aload_n G0.1 G0.2.1 dX12_clauseText_57 rfl (lv_at hl 2 rfl) ?_
          refine lv_dup G0.1 G0.2.1 dX12_clauseText_58 rfl ?_
          refine py_get (C := RX12) (T := TX12) (N := 54) (k := 3) (v := .int v_51) G0 hw in_X12_clauseText_X12 rfl hr_52 (by decide) (by decide +kernel) rfl dX12_clauseText_59 ?_
          refine lv_iconst (v := 1) G0.1 G0.2.1 dX12_clauseText_62 (by decide) ?_
          refine lv_iadd G0.1 G0.2.1 dX12_clauseText_63 ?_
          refine lv_topi (fun x_151 ex_151 => ?_)
          first | have tx_151 := ti_add ex_151 (by omega -splitDisjunctions) (by omega -splitDisjunctions) | skip
          refine py_put (C := RX12) (T := TX12) (N := 54) (k := 3) (v := .int x_151) (fs' := [.int v_1, .ref (G.2 u 1), .int v_2, .int x_151, .int v_4, .int v_5, .ref (G.2 u 6), .ref (G.2 u 7), .ref (G.2 u 8), .ref (G.2 u 9), .ref (G.2 u 10), .ref (G.2 u 11), .ref (G.2 u 12), .int v_6, .int v_7, .ref (G.2 u 15), .ref (G.2 u 16), .ref (G.2 u 17), .ref (G.2 u 18), .int v_8, .int v_9, .ref (G.2 u 21), .ref (G.2 u 22), .ref (G.2 u 23), .int v_10, .int v_11, .ref (G.2 u 26), .ref (G.2 u 27), .ref (G.2 u 28), .int v_12, .long y_13, .int v_14, .int v_15, .int v_16, .int v_17, .ref (G.2 u 35), .ref (G.2 u 36), .ref (G.2 u 37), .ref (G.2 u 38), .ref (G.2 u 39), .ref (G.2 u 40), .ref (G.2 u 41), .ref (G.2 u 42), .int v_18, .ref (G.2 u 44), .ref (G.2 u 45), .ref (G.2 u 46), .ref (G.2 u 47), .long y_19, .ref (G.2 u 49), .ref (G.2 u 50), .int v_20, .long y_21, .int v_22]) (ty0 := tyX12) G0 hw tyX12_ok nmX12 in_X12_clauseText_X12 rfl hr_52 (by decide) (by decide +kernel) rfl rfl rfl rfl (Nat.le_of_ble_eq_true rfl) rfl dX12_clauseText_64 (fun f_152 H_153 locs h_154 x_155 hw => ?_)
          have h18 := (x_155 _ (hWF _ (by rw [(wt12_18 hG Tu)]; decide)).1 (wf_ne (wt12_18 hG Tu) Tu (by decide))).2.trans h18
          have hFK := hFK.put hr_52 h_154 3 (by decide) rfl
          have hKP := hKP.upd hWF x_155 Tu (Or.inl (by decide))
          have hWF := wf_upd hWF h_154 x_155 (by rw [Tu]; exact ⟨v_1, v_2, x_151, v_4, v_5, v_6, v_7, v_8, v_9, v_10, v_11, v_12, y_13, v_14, v_15, v_16, v_17, v_18, y_19, v_20, y_21, v_22, rfl, ⟨by omega, by omega⟩, ⟨by omega, by omega⟩, ⟨by omega, by omega⟩, ⟨by omega, by omega⟩, ⟨by omega, by omega⟩, ⟨by omega, by omega⟩, ⟨by omega, by omega⟩, ⟨by omega, by omega⟩, ⟨by omega, by omega⟩, ⟨by omega, by omega⟩, ⟨by omega, by omega⟩, ⟨by omega, by omega⟩⟩)
          have tq_156 := mi_row h_154 2 rfl
          have tq_157 := mi_row h_154 3 rfl
          have bx_151 := wf_free x_151
          have tq_158 := mi_row h_154 4 rfl
          have bv_4 := wf_free v_4
          have tq_159 := mi_row h_154 19 rfl
          have tq_160 := mi_row h_154 20 rfl
          refine lv_aload_n G0.1 G0.2.1 dX12_clauseText_67 rfl (lv_at hl 2 rfl) ?_
          refine lv_iload_n G0.1 G0.2.1 dX12_clauseText_68 rfl (lv_at hl 0 rfl) ?_
          refine lv_iload_n G0.1 G0.2.1 dX12_clauseText_69 rfl (lv_at hl 0 rfl) ?_
          refine lv_if_eq (tgt := 80) G0.1 G0.2.1 dX12_clauseText_70 (by decide) (fun c_161 => ?_) (fun c_161 => ?_)
          · skip
            exact absurd c_161 (by decide)
          · skip
            have tc_161 := ti_ne c_161
            refine lv_aload_n G0.1 G0.2.1 dX12_clauseText_73 rfl (lv_at hl 2 rfl) ?_
            refine py_get (C := RX12) (T := TX12) (N := 54) (k := 17) (v := .ref (G.2 u 17)) G0 hw in_X12_clauseText_X12 rfl h_154 (by decide) (by decide +kernel) rfl dX12_clauseText_74 ?_
            refine lv_goto (tgt := 84) G0.1 G0.2.1 dX12_clauseText_77 (by decide) ?_
            refine lv_iconst (v := 4) G0.1 G0.2.1 dX12_clauseText_84 (by decide) ?_
            refine lv_iload_n G0.1 G0.2.1 dX12_clauseText_85 rfl (lv_at hl 0 rfl) ?_
            refine lv_if_eq (tgt := 96) G0.1 G0.2.1 dX12_clauseText_86 (by decide) (fun c_162 => ?_) (fun c_162 => ?_)
            · skip
              exact absurd c_162 (by decide)
            · skip
              have tc_162 := ti_ne c_162
              refine lv_aload_n G0.1 G0.2.1 dX12_clauseText_89 rfl (lv_at hl 2 rfl) ?_
              refine py_get (C := RX12) (T := TX12) (N := 54) (k := 19) (v := .int v_8) G0 hw in_X12_clauseText_X12 rfl h_154 (by decide) (by decide +kernel) rfl dX12_clauseText_90 ?_
              refine lv_goto (tgt := 100) G0.1 G0.2.1 dX12_clauseText_93 (by decide) ?_
              refine lv_imul G0.1 G0.2.1 dX12_clauseText_100 ?_
              refine lv_topi (fun x_163 ex_163 => ?_)
              first | have tx_163 := ti_muld ex_163 kc4 (by omega -splitDisjunctions) (by omega -splitDisjunctions) | skip
              refine py_callv hw (va_runV (As := [.int 1, .ref (G.2 u 17), .int x_163]) (rest := []) G0 (c_X12_items50 l E G L_41 f_152 H_153.size u (G.2 u 17) x_163 hG hWF Tu (wt12_17 hG Tu) ⟨by omega, by omega⟩ (show 0 ≤ mi f_152 u 3 ∧ mi f_152 u 3 ≤ mi f_152 u 2 ∧ mi f_152 u 4 = -1 by omega)) (cwV 3 G0.2.2.2.2 g_X12_clauseText_X12_items_270 rfl rfl rfl (by decide +kernel) ⟨(Nat.le_of_ble_eq_true rfl), (Nat.le_of_ble_eq_true rfl)⟩) (py_preV hw (C := RX12) (T := TX12) (N := 54) rfl h_154) rfl rfl hl.1 rfl (lv_room (Nat.le_of_ble_eq_true rfl)) dX12_clauseText_101 ⟨(Nat.le_of_ble_eq_true rfl), (Nat.le_of_ble_eq_true rfl)⟩) (fun L_164 f_165 H_166 locs hp_167 hw => ?_)
              obtain ⟨en_169, hWF, kp_170, fk_171⟩ := hp_167
              have h18 := (kp_f kp_170 (wt12_18 hG Tu) (by decide) (by decide) (fun _ => by decide)).trans h18
              have hFK := hFK.trans fk_171 (by decide)
              have hKP := hKP.trans kp_170 (by decide) (by decide)
              obtain ⟨v_172, v_173, hr_174⟩ := fk_3_4 hWF Tu fk_171 h_154
              have tq_175 := mi_row hr_174 2 rfl
              have tq_176 := mi_row hr_174 3 rfl
              have bv_172 := wf_free v_172
              have tq_177 := mi_row hr_174 4 rfl
              have bv_173 := wf_free v_173
              have tq_178 := mi_row hr_174 19 rfl
              have tq_179 := mi_row hr_174 20 rfl
              refine lv_aload_n G0.1 G0.2.1 dX12_clauseText_104 rfl (lv_at hl 2 rfl) ?_
              refine lv_dup G0.1 G0.2.1 dX12_clauseText_105 rfl ?_
              refine py_get (C := RX12) (T := TX12) (N := 54) (k := 19) (v := .int v_8) G0 hw in_X12_clauseText_X12 rfl hr_174 (by decide) (by decide +kernel) rfl dX12_clauseText_106 ?_
              refine lv_iload_n G0.1 G0.2.1 dX12_clauseText_109 rfl (lv_at hl 0 rfl) ?_
              refine lv_if_eq (tgt := 117) G0.1 G0.2.1 dX12_clauseText_110 (by decide) (fun c_180 => ?_) (fun c_180 => ?_)
              · skip
                exact absurd c_180 (by decide)
              · skip
                have tc_180 := ti_ne c_180
                refine lv_iconst (v := 1) G0.1 G0.2.1 dX12_clauseText_113 (by decide) ?_
                refine lv_goto (tgt := 118) G0.1 G0.2.1 dX12_clauseText_114 (by decide) ?_
                refine lv_iadd G0.1 G0.2.1 dX12_clauseText_118 ?_
                refine lv_topi (fun x_181 ex_181 => ?_)
                first | have tx_181 := ti_add ex_181 (by omega -splitDisjunctions) (by omega -splitDisjunctions) | skip
                refine py_put (C := RX12) (T := TX12) (N := 54) (k := 19) (v := .int x_181) (fs' := [.int v_1, .ref (G.2 u 1), .int v_2, .int v_172, .int v_173, .int v_5, .ref (G.2 u 6), .ref (G.2 u 7), .ref (G.2 u 8), .ref (G.2 u 9), .ref (G.2 u 10), .ref (G.2 u 11), .ref (G.2 u 12), .int v_6, .int v_7, .ref (G.2 u 15), .ref (G.2 u 16), .ref (G.2 u 17), .ref (G.2 u 18), .int x_181, .int v_9, .ref (G.2 u 21), .ref (G.2 u 22), .ref (G.2 u 23), .int v_10, .int v_11, .ref (G.2 u 26), .ref (G.2 u 27), .ref (G.2 u 28), .int v_12, .long y_13, .int v_14, .int v_15, .int v_16, .int v_17, .ref (G.2 u 35), .ref (G.2 u 36), .ref (G.2 u 37), .ref (G.2 u 38), .ref (G.2 u 39), .ref (G.2 u 40), .ref (G.2 u 41), .ref (G.2 u 42), .int v_18, .ref (G.2 u 44), .ref (G.2 u 45), .ref (G.2 u 46), .ref (G.2 u 47), .long y_19, .ref (G.2 u 49), .ref (G.2 u 50), .int v_20, .long y_21, .int v_22]) (ty0 := tyX12) G0 hw tyX12_ok nmX12 in_X12_clauseText_X12 rfl hr_174 (by decide) (by decide +kernel) rfl rfl rfl rfl (Nat.le_of_ble_eq_true rfl) rfl dX12_clauseText_119 (fun f_182 H_183 locs h_184 x_185 hw => ?_)
                have h18 := (x_185 _ (hWF _ (by rw [(wt12_18 hG Tu)]; decide)).1 (wf_ne (wt12_18 hG Tu) Tu (by decide))).2.trans h18
                have hFK := hFK.put hr_174 h_184 19 (by decide) rfl
                have hKP := hKP.upd hWF x_185 Tu (Or.inl (by decide))
                have hWF := wf_upd hWF h_184 x_185 (by rw [Tu]; exact ⟨v_1, v_2, v_172, v_173, v_5, v_6, v_7, x_181, v_9, v_10, v_11, v_12, y_13, v_14, v_15, v_16, v_17, v_18, y_19, v_20, y_21, v_22, rfl, ⟨by omega, by omega⟩, ⟨by omega, by omega⟩, ⟨by omega, by omega⟩, ⟨by omega, by omega⟩, ⟨by omega, by omega⟩, ⟨by omega, by omega⟩, ⟨by omega, by omega⟩, ⟨by omega, by omega⟩, ⟨by omega, by omega⟩, ⟨by omega, by omega⟩, ⟨by omega, by omega⟩, ⟨by omega, by omega⟩⟩)
                have tq_186 := mi_row h_184 2 rfl
                have tq_187 := mi_row h_184 3 rfl
                have bv_172 := wf_free v_172
                have tq_188 := mi_row h_184 4 rfl
                have bv_173 := wf_free v_173
                have tq_189 := mi_row h_184 19 rfl
                have tq_190 := mi_row h_184 20 rfl
                refine lv_aload_n G0.1 G0.2.1 dX12_clauseText_122 rfl (lv_at hl 2 rfl) ?_
                refine lv_dup G0.1 G0.2.1 dX12_clauseText_123 rfl ?_
                refine py_get (C := RX12) (T := TX12) (N := 54) (k := 20) (v := .int v_9) G0 hw in_X12_clauseText_X12 rfl h_184 (by decide) (by decide +kernel) rfl dX12_clauseText_124 ?_
                refine lv_iload_n G0.1 G0.2.1 dX12_clauseText_127 rfl (lv_at hl 0 rfl) ?_
                refine lv_if_eq (tgt := 135) G0.1 G0.2.1 dX12_clauseText_128 (by decide) (fun c_191 => ?_) (fun c_191 => ?_)
                · skip
                  exact absurd c_191 (by decide)
                · skip
                  have tc_191 := ti_ne c_191
                  refine lv_iconst (v := 0) G0.1 G0.2.1 dX12_clauseText_131 (by decide) ?_
                  refine lv_goto (tgt := 136) G0.1 G0.2.1 dX12_clauseText_132 (by decide) ?_
                  refine lv_iadd G0.1 G0.2.1 dX12_clauseText_136 ?_
                  refine lv_topi (fun x_192 ex_192 => ?_)
                  first | have tx_192 := ti_add ex_192 (by omega -splitDisjunctions) (by omega -splitDisjunctions) | skip
                  refine py_put (C := RX12) (T := TX12) (N := 54) (k := 20) (v := .int x_192) (fs' := [.int v_1, .ref (G.2 u 1), .int v_2, .int v_172, .int v_173, .int v_5, .ref (G.2 u 6), .ref (G.2 u 7), .ref (G.2 u 8), .ref (G.2 u 9), .ref (G.2 u 10), .ref (G.2 u 11), .ref (G.2 u 12), .int v_6, .int v_7, .ref (G.2 u 15), .ref (G.2 u 16), .ref (G.2 u 17), .ref (G.2 u 18), .int x_181, .int x_192, .ref (G.2 u 21), .ref (G.2 u 22), .ref (G.2 u 23), .int v_10, .int v_11, .ref (G.2 u 26), .ref (G.2 u 27), .ref (G.2 u 28), .int v_12, .long y_13, .int v_14, .int v_15, .int v_16, .int v_17, .ref (G.2 u 35), .ref (G.2 u 36), .ref (G.2 u 37), .ref (G.2 u 38), .ref (G.2 u 39), .ref (G.2 u 40), .ref (G.2 u 41), .ref (G.2 u 42), .int v_18, .ref (G.2 u 44), .ref (G.2 u 45), .ref (G.2 u 46), .ref (G.2 u 47), .long y_19, .ref (G.2 u 49), .ref (G.2 u 50), .int v_20, .long y_21, .int v_22]) (ty0 := tyX12) G0 hw tyX12_ok nmX12 in_X12_clauseText_X12 rfl h_184 (by decide) (by decide +kernel) rfl rfl rfl rfl (Nat.le_of_ble_eq_true rfl) rfl dX12_clauseText_137 (fun f_193 H_194 locs h_195 x_196 hw => ?_)
                  have h18 := (x_196 _ (hWF _ (by rw [(wt12_18 hG Tu)]; decide)).1 (wf_ne (wt12_18 hG Tu) Tu (by decide))).2.trans h18
                  have hFK := hFK.put h_184 h_195 20 (by decide) rfl
                  have hKP := hKP.upd hWF x_196 Tu (Or.inl (by decide))
                  have hWF := wf_upd hWF h_195 x_196 (by rw [Tu]; exact ⟨v_1, v_2, v_172, v_173, v_5, v_6, v_7, x_181, x_192, v_10, v_11, v_12, y_13, v_14, v_15, v_16, v_17, v_18, y_19, v_20, y_21, v_22, rfl, ⟨by omega, by omega⟩, ⟨by omega, by omega⟩, ⟨by omega, by omega⟩, ⟨by omega, by omega⟩, ⟨by omega, by omega⟩, ⟨by omega, by omega⟩, ⟨by omega, by omega⟩, ⟨by omega, by omega⟩, ⟨by omega, by omega⟩, ⟨by omega, by omega⟩, ⟨by omega, by omega⟩, ⟨by omega, by omega⟩⟩)
                  have tq_197 := mi_row h_195 2 rfl
                  have tq_198 := mi_row h_195 3 rfl
                  have bv_172 := wf_free v_172
                  have tq_199 := mi_row h_195 4 rfl
                  have bv_173 := wf_free v_173
                  have tq_200 := mi_row h_195 19 rfl
                  have tq_201 := mi_row h_195 20 rfl
                  exact py_vret G0 hr hlk hw ⟨(by first | omega | (intro q; omega)), (fun hrf hw => hrf.same h18 (by omega)), hWF, hKP, hFK⟩ dX12_clauseText_140
        · skip
          have tc_150 := ti_eq c_150
          refine lv_goto (tgt := 52) G0.1 G0.2.1 dX12_clauseText_40 (by decide) ?_
          refine lv_aload_n G0.1 G0.2.1 dX12_clauseText_52 rfl (lv_at hl 2 rfl) ?_
          refine py_callv hw (va_runV (As := []) (rest := []) G0 (c_X12_bad l E G L_41 f_42 H_43.size u hG hWF Tu (show 0 ≤ mi f_42 u 3 by omega)) (cwV 0 G0.2.2.2.2 g_X12_clauseText_X12_bad_143 rfl rfl rfl (by decide +kernel) ⟨(Nat.le_of_ble_eq_true rfl), (Nat.le_of_ble_eq_true rfl)⟩) (py_preV hw (C := RX12) (T := TX12) (N := 54) rfl hr_52) rfl rfl hl.1 rfl (lv_room (Nat.le_of_ble_eq_true rfl)) dX12_clauseText_53 ⟨(Nat.le_of_ble_eq_true rfl), (Nat.le_of_ble_eq_true rfl)⟩) (fun L_202 f_203 H_204 locs hp_205 hw => ?_)
          obtain ⟨en_207, en_208, hWF, kp_209, fk_210⟩ := hp_205
          have h18 := (kp_f kp_209 (wt12_18 hG Tu) (by decide) (by decide) (fun _ => by decide)).trans h18
          have hFK := hFK.trans fk_210 (by decide)
          have hKP := hKP.trans kp_209 (by decide) (by decide)
          obtain ⟨v_211, hr_212⟩ := fk_4 hWF Tu fk_210 hr_52
          have tq_213 := mi_row hr_212 2 rfl
          have tq_214 := mi_row hr_212 3 rfl
          have bv_51 := wf_free v_51
          have tq_215 := mi_row hr_212 4 rfl
          have bv_211 := wf_free v_211
          have tq_216 := mi_row hr_212 19 rfl
          have tq_217 := mi_row hr_212 20 rfl
          exact py_vret G0 hr hlk hw ⟨(by first | omega | (intro q; omega)), (fun hrf hw => hrf.same h18 (by omega)), hWF, hKP, hFK⟩ dX12_clauseText_56
    · skip
      exact absurd c_148 (by decide)
