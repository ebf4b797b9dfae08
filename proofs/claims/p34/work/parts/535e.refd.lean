theorem dX12_hush_0 : decode cX12_hush 0 = .ok (.aload_n 0, 1) := by decide +kernel
theorem dX12_hush_1 : decode cX12_hush 1 = .ok (.iload_n 1, 1) := by decide +kernel
theorem dX12_hush_2 : decode cX12_hush 2 = .ok (.invokevirtual 347, 3) := by decide +kernel
theorem dX12_hush_5 : decode cX12_hush 5 = .ok (.ifCond .eq 31, 3) := by decide +kernel
theorem dX12_hush_8 : decode cX12_hush 8 = .ok (.aload_n 0, 1) := by decide +kernel
theorem dX12_hush_9 : decode cX12_hush 9 = .ok (.iload_n 1, 1) := by decide +kernel
theorem dX12_hush_10 : decode cX12_hush 10 = .ok (.invokevirtual 341, 3) := by decide +kernel
theorem dX12_hush_13 : decode cX12_hush 13 = .ok (.ifCond .ne 23, 3) := by decide +kernel
theorem dX12_hush_16 : decode cX12_hush 16 = .ok (.aload_n 0, 1) := by decide +kernel
theorem dX12_hush_17 : decode cX12_hush 17 = .ok (.iload_n 1, 1) := by decide +kernel
theorem dX12_hush_18 : decode cX12_hush 18 = .ok (.bipush 7, 2) := by decide +kernel
theorem dX12_hush_20 : decode cX12_hush 20 = .ok (.invokevirtual 287, 3) := by decide +kernel
theorem dX12_hush_23 : decode cX12_hush 23 = .ok (.iconst 1, 1) := by decide +kernel
theorem dX12_hush_24 : decode cX12_hush 24 = .ok (.if_icmp .ne 7, 3) := by decide +kernel
theorem dX12_hush_27 : decode cX12_hush 27 = .ok (.iconst 1, 1) := by decide +kernel
theorem dX12_hush_28 : decode cX12_hush 28 = .ok (.goto 4, 3) := by decide +kernel
theorem dX12_hush_31 : decode cX12_hush 31 = .ok (.iconst 0, 1) := by decide +kernel
theorem dX12_hush_32 : decode cX12_hush 32 = .ok (.iload_n 2, 1) := by decide +kernel
theorem dX12_hush_33 : decode cX12_hush 33 = .ok (.if_icmp .ne 5, 3) := by decide +kernel
theorem dX12_hush_36 : decode cX12_hush 36 = .ok (.iconst 0, 1) := by decide +kernel
theorem dX12_hush_37 : decode cX12_hush 37 = .ok (.ireturn, 1) := by decide +kernel
theorem dX12_hush_38 : decode cX12_hush 38 = .ok (.aload_n 0, 1) := by decide +kernel
theorem dX12_hush_39 : decode cX12_hush 39 = .ok (.iload_n 1, 1) := by decide +kernel
theorem dX12_hush_40 : decode cX12_hush 40 = .ok (.bipush 7, 2) := by decide +kernel
theorem dX12_hush_42 : decode cX12_hush 42 = .ok (.iload_n 2, 1) := by decide +kernel
theorem dX12_hush_43 : decode cX12_hush 43 = .ok (.ifCond .eq 7, 3) := by decide +kernel
theorem dX12_hush_46 : decode cX12_hush 46 = .ok (.iconst 1, 1) := by decide +kernel
theorem dX12_hush_47 : decode cX12_hush 47 = .ok (.goto 4, 3) := by decide +kernel
theorem dX12_hush_50 : decode cX12_hush 50 = .ok (.iconst 0, 1) := by decide +kernel
theorem dX12_hush_51 : decode cX12_hush 51 = .ok (.invokevirtual 305, 3) := by decide +kernel
theorem dX12_hush_54 : decode cX12_hush 54 = .ok (.iconst 1, 1) := by decide +kernel
theorem dX12_hush_55 : decode cX12_hush 55 = .ok (.ireturn, 1) := by decide +kernel
theorem dX12_most_0 : decode cX12_most 0 = .ok (.aload_n 0, 1) := by decide +kernel
theorem dX12_most_1 : decode cX12_most 1 = .ok (.getfield 290, 3) := by decide +kernel
theorem dX12_most_4 : decode cX12_most 4 = .ok (.ifCond .eq 12, 3) := by decide +kernel
theorem dX12_most_7 : decode cX12_most 7 = .ok (.iload_n 1, 1) := by decide +kernel
theorem dX12_most_8 : decode cX12_most 8 = .ok (.iconst 0, 1) := by decide +kernel
theorem dX12_most_9 : decode cX12_most 9 = .ok (.iconst 1, 1) := by decide +kernel
theorem dX12_most_10 : decode cX12_most 10 = .ok (.invokestatic 232, 3) := by decide +kernel
theorem dX12_most_13 : decode cX12_most 13 = .ok (.ifCond .ne 5, 3) := by decide +kernel
theorem dX12_most_16 : decode cX12_most 16 = .ok (.iconst (-1), 1) := by decide +kernel
theorem dX12_most_17 : decode cX12_most 17 = .ok (.ireturn, 1) := by decide +kernel
theorem dX12_most_18 : decode cX12_most 18 = .ok (.iconst 0, 1) := by decide +kernel
theorem dX12_most_19 : decode cX12_most 19 = .ok (.istore_n 2, 1) := by decide +kernel
theorem dX12_most_20 : decode cX12_most 20 = .ok (.aload_n 0, 1) := by decide +kernel
theorem dX12_most_21 : decode cX12_most 21 = .ok (.invokevirtual 414, 3) := by decide +kernel
theorem dX12_most_24 : decode cX12_most 24 = .ok (.istore_n 3, 1) := by decide +kernel
theorem dX12_most_25 : decode cX12_most 25 = .ok (.iconst 1, 1) := by decide +kernel
theorem dX12_most_26 : decode cX12_most 26 = .ok (.istore 4, 2) := by decide +kernel
theorem dX12_most_28 : decode cX12_most 28 = .ok (.iload 4, 2) := by decide +kernel
theorem dX12_most_30 : decode cX12_most 30 = .ok (.iload_n 3, 1) := by decide +kernel
theorem dX12_most_31 : decode cX12_most 31 = .ok (.if_icmp .gt 46, 3) := by decide +kernel
theorem dX12_most_34 : decode cX12_most 34 = .ok (.iload 4, 2) := by decide +kernel
theorem dX12_most_36 : decode cX12_most 36 = .ok (.iload_n 3, 1) := by decide +kernel
theorem dX12_most_37 : decode cX12_most 37 = .ok (.iconst (-1), 1) := by decide +kernel
theorem dX12_most_38 : decode cX12_most 38 = .ok (.ixor, 1) := by decide +kernel
theorem dX12_most_39 : decode cX12_most 39 = .ok (.iand, 1) := by decide +kernel
theorem dX12_most_40 : decode cX12_most 40 = .ok (.ifCond .ne 29, 3) := by decide +kernel
theorem dX12_most_43 : decode cX12_most 43 = .ok (.iload 4, 2) := by decide +kernel
theorem dX12_most_45 : decode cX12_most 45 = .ok (.invokestatic 391, 3) := by decide +kernel
theorem dX12_most_48 : decode cX12_most 48 = .ok (.iload_n 2, 1) := by decide +kernel
theorem dX12_most_49 : decode cX12_most 49 = .ok (.invokestatic 391, 3) := by decide +kernel
theorem dX12_most_52 : decode cX12_most 52 = .ok (.if_icmp .le 17, 3) := by decide +kernel
theorem dX12_most_55 : decode cX12_most 55 = .ok (.aload_n 0, 1) := by decide +kernel
theorem dX12_most_56 : decode cX12_most 56 = .ok (.iload 4, 2) := by decide +kernel
theorem dX12_most_58 : decode cX12_most 58 = .ok (.invokevirtual 417, 3) := by decide +kernel
theorem dX12_most_61 : decode cX12_most 61 = .ok (.ifCond .eq 8, 3) := by decide +kernel
theorem dX12_most_64 : decode cX12_most 64 = .ok (.iload 4, 2) := by decide +kernel
theorem dX12_most_66 : decode cX12_most 66 = .ok (.goto 4, 3) := by decide +kernel
theorem dX12_most_69 : decode cX12_most 69 = .ok (.iload_n 2, 1) := by decide +kernel
theorem dX12_most_70 : decode cX12_most 70 = .ok (.istore_n 2, 1) := by decide +kernel
theorem dX12_most_71 : decode cX12_most 71 = .ok (.iinc 4 1, 3) := by decide +kernel
theorem dX12_most_74 : decode cX12_most 74 = .ok (.goto (-46), 3) := by decide +kernel
theorem dX12_most_77 : decode cX12_most 77 = .ok (.iload_n 1, 1) := by decide +kernel
theorem dX12_most_78 : decode cX12_most 78 = .ok (.ifCond .ne 10, 3) := by decide +kernel
theorem dX12_most_81 : decode cX12_most 81 = .ok (.iload_n 2, 1) := by decide +kernel
theorem dX12_most_82 : decode cX12_most 82 = .ok (.invokestatic 391, 3) := by decide +kernel
theorem dX12_most_85 : decode cX12_most 85 = .ok (.goto 4, 3) := by decide +kernel
theorem dX12_most_88 : decode cX12_most 88 = .ok (.iload_n 2, 1) := by decide +kernel
theorem dX12_most_89 : decode cX12_most 89 = .ok (.ireturn, 1) := by decide +kernel
def w_X12_hush : List Cond := .code yX12_hush cX12_hush 3 (some .boolean) :: ([Cond.methodLink RX12 347 yX12_isFamily, Cond.instanceMethod yX12_isFamily, Cond.selects RX12 yX12_isFamily yX12_isFamily, Cond.initialized RX12, Cond.methodLink RX12 341 yX12_isGone, Cond.instanceMethod yX12_isGone, Cond.selects RX12 yX12_isGone yX12_isGone, Cond.methodLink RX12 287 yX12_of, Cond.instanceMethod yX12_of, Cond.selects RX12 yX12_of yX12_of, Cond.methodLink RX12 305 yX12_tell, Cond.instanceMethod yX12_tell, Cond.selects RX12 yX12_tell yX12_tell] ++ (w_X12_isFamily ++ (w_X12_isGone ++ (w_X12_of ++ (w_X12_tell ++ ([]))))))
theorem gg_X12_hush_X12_isFamily : GoodIn w_X12_hush w_X12_isFamily := goodIn_sub (fun _ h => List.mem_cons_of_mem _ (List.mem_append_right _ (List.mem_append_left _ h))) (by decide +kernel)
theorem gg_X12_hush_X12_isGone : GoodIn w_X12_hush w_X12_isGone := goodIn_sub (fun _ h => List.mem_cons_of_mem _ (List.mem_append_right _ (List.mem_append_right _ (List.mem_append_left _ h)))) (by decide +kernel)
theorem gg_X12_hush_X12_of : GoodIn w_X12_hush w_X12_of := goodIn_sub (fun _ h => List.mem_cons_of_mem _ (List.mem_append_right _ (List.mem_append_right _ (List.mem_append_right _ (List.mem_append_left _ h))))) (by decide +kernel)
theorem gg_X12_hush_X12_tell : GoodIn w_X12_hush w_X12_tell := goodIn_sub (fun _ h => List.mem_cons_of_mem _ (List.mem_append_right _ (List.mem_append_right _ (List.mem_append_right _ (List.mem_append_right _ (List.mem_append_left _ h)))))) (by decide +kernel)
theorem g_X12_hush_X12_isFamily_347 : GoodIn w_X12_hush (wsV RX12 347 RX12 yX12_isFamily w_X12_isFamily) := goodIn_app (goodIn_of _ (by decide +kernel)) gg_X12_hush_X12_isFamily
theorem g_X12_hush_X12_isGone_341 : GoodIn w_X12_hush (wsV RX12 341 RX12 yX12_isGone w_X12_isGone) := goodIn_app (goodIn_of _ (by decide +kernel)) gg_X12_hush_X12_isGone
theorem g_X12_hush_X12_of_287 : GoodIn w_X12_hush (wsV RX12 287 RX12 yX12_of w_X12_of) := goodIn_app (goodIn_of _ (by decide +kernel)) gg_X12_hush_X12_of
theorem g_X12_hush_X12_tell_305 : GoodIn w_X12_hush (wsV RX12 305 RX12 yX12_tell w_X12_tell) := goodIn_app (goodIn_of _ (by decide +kernel)) gg_X12_hush_X12_tell
set_option maxHeartbeats 4000000 in
set_option maxRecDepth 100000 in
theorem c_X12_hush (l : Launch) (E : py_E) (G : wf_G) (L : List Nat) (f : py_F) (sz : Nat) (u : Nat) (a : Int32) (b : Int32) (hG : GT G) (hWF : WF E G L f) (Tu : G.1 u = 13) (Bb : (0 ≤ b.toInt ∧ b.toInt ≤ 1)) : Met l yX12_hush w_X12_hush ({ frames := 2, cells := 0, slots := 0, locals := 43 }) (py_Pc E [.ref u, .int a, .int b] L f sz) (py_Qi E L f sz (fun r L1 f1 => (0 ≤ r.toInt ∧ r.toInt ≤ 1) ∧ WF E G L1 f1 ∧ KP G [55] false f f1 ∧ FK [] f f1 u)) 0 0 (va_A (va_pl L f) sz) := by
  refine Met.ofW (cc := cX12_hush) (maxL := 3) (ret := (some .boolean)) (by decide) rfl ?_
  intro p e s m args below meth c s₁ B hml hv
  obtain ⟨rfl, rfl, hw⟩ := py_start hv
  have G0 : CallFix p m c cX12_hush 3 s _ w_X12_hush RX12 := ⟨B.exec, B.bytes, hml, findClass_of_methodNamed B.named, atoms_spec (ws := w_X12_hush) B.pre⟩
  have hr := B.returns
  have hlk := B.notSynchronized
  have kcm1 : (-1 : Int32).toInt = -1 := rfl
  have kc0 : (0 : Int32).toInt = 0 := rfl
  have kc1 : (1 : Int32).toInt = 1 := rfl
  have kc7 : (7 : Int32).toInt = 7 := rfl
  have hl := lv_entry ([.ref u, .int a, .int b]) (n := 3) (Nat.le_of_ble_eq_true rfl)
  rw [lg_entry_eq]
  generalize (lg_sl ([.ref u, .int a, .int b]) ++ List.replicate (3 - (lg_sl ([.ref u, .int a, .int b])).length) Slot.unset).toArray = ls at hl ⊢
  have hl : lv_has ls 3 [(0, .ref u), (1, .int a), (2, .int b)] := hl
  have hFK : FK [] f f u := FK.refl
  have hKP : KP G [55] false f f := KP.refl
  refine lv_aload_n G0.1 G0.2.1 dX12_hush_0 rfl (lv_at hl 0 rfl) ?_
  refine lv_iload_n G0.1 G0.2.1 dX12_hush_1 rfl (lv_at hl 1 rfl) ?_
  obtain ⟨v_1, v_2, v_3, v_4, v_5, v_6, v_7, v_8, v_9, v_10, v_11, v_12, y_13, v_14, v_15, v_16, v_17, v_18, y_19, v_20, y_21, v_22, hr_35, b_23, b_24, b_25, b_26, b_27, b_28, b_29, b_30, b_31, b_32, b_33, b_34⟩ := wg_12 hWF Tu
  refine py_calli hw (va_runV (As := [.int a]) (rest := []) G0 (c_X12_isFamily l E G L f s.heap.size u a hG hWF Tu) (cwV 1 G0.2.2.2.2 g_X12_hush_X12_isFamily_347 rfl rfl rfl (by decide +kernel) ⟨(Nat.le_of_ble_eq_true rfl), (Nat.le_of_ble_eq_true rfl)⟩) (py_preV hw (C := RX12) (T := TX12) (N := 54) rfl hr_35) rfl rfl hl.1 rfl (lv_room (Nat.le_of_ble_eq_true rfl)) dX12_hush_2 ⟨(Nat.le_of_ble_eq_true rfl), (Nat.le_of_ble_eq_true rfl)⟩) (fun r_40 L_36 f_37 H_38 locs hp_39 hw => ?_)
  obtain ⟨b_42, en_41, rfl, rfl⟩ := hp_39
  refine lv_if_eq (tgt := 36) G0.1 G0.2.1 dX12_hush_5 (by decide) (fun c_43 => ?_) (fun c_43 => ?_)
  · skip
    have tc_43 := ti_eq c_43
    clear en_41
    refine lv_iconst (v := 0) G0.1 G0.2.1 dX12_hush_36 (by decide) ?_
    exact py_iret G0 hr rfl hlk hw ⟨⟨by omega, by omega⟩, hWF, hKP, hFK⟩ dX12_hush_37
  · skip
    have tc_43 := ti_ne c_43
    replace en_41 := en_41 (by omega)
    refine lv_aload_n G0.1 G0.2.1 dX12_hush_8 rfl (lv_at hl 0 rfl) ?_
    refine lv_iload_n G0.1 G0.2.1 dX12_hush_9 rfl (lv_at hl 1 rfl) ?_
    refine py_calli hw (va_runV (As := [.int a]) (rest := []) G0 (c_X12_isGone l E G L f H_38.size u a hG hWF Tu ⟨by omega, by omega⟩) (cwV 1 G0.2.2.2.2 g_X12_hush_X12_isGone_341 rfl rfl rfl (by decide +kernel) ⟨(Nat.le_of_ble_eq_true rfl), (Nat.le_of_ble_eq_true rfl)⟩) (py_preV hw (C := RX12) (T := TX12) (N := 54) rfl hr_35) rfl rfl hl.1 rfl (lv_room (Nat.le_of_ble_eq_true rfl)) dX12_hush_10 ⟨(Nat.le_of_ble_eq_true rfl), (Nat.le_of_ble_eq_true rfl)⟩) (fun r_48 L_44 f_45 H_46 locs hp_47 hw => ?_)
    obtain ⟨b_51, en_49, en_50, rfl, rfl⟩ := hp_47
    refine lv_if_ne (tgt := 36) G0.1 G0.2.1 dX12_hush_13 (by decide) (fun c_52 => ?_) (fun c_52 => ?_)
    · skip
      have tc_52 := ti_ne c_52
      replace en_49 := en_49 (by omega)
      clear en_50
      refine lv_iconst (v := 0) G0.1 G0.2.1 dX12_hush_36 (by decide) ?_
      exact py_iret G0 hr rfl hlk hw ⟨⟨by omega, by omega⟩, hWF, hKP, hFK⟩ dX12_hush_37
    · skip
      have tc_52 := ti_eq c_52
      clear en_49
      replace en_50 := en_50 (by omega)
      refine lv_aload_n G0.1 G0.2.1 dX12_hush_16 rfl (lv_at hl 0 rfl) ?_
      refine lv_iload_n G0.1 G0.2.1 dX12_hush_17 rfl (lv_at hl 1 rfl) ?_
      refine lv_bipush (v := 7) G0.1 G0.2.1 dX12_hush_18 (by decide) ?_
      refine py_calli hw (va_runV (As := [.int a, .int 7]) (rest := []) G0 (c_X12_of l E G L f H_46.size u a 7 hG hWF Tu ⟨by omega, by omega⟩ ⟨by omega, by omega⟩) (cwV 2 G0.2.2.2.2 g_X12_hush_X12_of_287 rfl rfl rfl (by decide +kernel) ⟨(Nat.le_of_ble_eq_true rfl), (Nat.le_of_ble_eq_true rfl)⟩) (py_preV hw (C := RX12) (T := TX12) (N := 54) rfl hr_35) rfl rfl hl.1 rfl (lv_room (Nat.le_of_ble_eq_true rfl)) dX12_hush_20 ⟨(Nat.le_of_ble_eq_true rfl), (Nat.le_of_ble_eq_true rfl)⟩) (fun r_57 L_53 f_54 H_55 locs hp_56 hw => ?_)
      obtain ⟨en_58, en_59, rfl, rfl⟩ := hp_56
      have en_58 : r_57.toInt = nw f G u a.toInt (7 : Int) := en_58
      have en_59 : ((7 : Int) = 0 → 0 ≤ r_57.toInt ∧ r_57.toInt ≤ 20) ∧ ((7 : Int) = 1 → -1 ≤ r_57.toInt ∧ r_57.toInt ≤ 7) := en_59
      have br_57 := wf_free r_57
      refine lv_iconst (v := 1) G0.1 G0.2.1 dX12_hush_23 (by decide) ?_
      have jn_32 : ∀ (v_60 : Int32) (H_j32 : Heap) (locs : List Loc) (ls : Array Slot), (0 ≤ v_60.toInt ∧ v_60.toInt ≤ 1) → py_W E (va_A (va_pl L f) s.heap.size) s L f H_j32 locs → lv_has ls 3 [(0, .ref u), (1, .int a), (2, .int b)] → W p l e (headSpec w_X12_hush ({ frames := 2, cells := 0, slots := 0, locals := 43 })).room s m ([.ref u, .int a, .int b] : List Value).toArray below meth c H_j32 locs 0 0 (MQ below (py_Qi E L f s.heap.size (fun r L1 f1 => (0 ≤ r.toInt ∧ r.toInt ≤ 1) ∧ WF E G L1 f1 ∧ KP G [55] false f f1 ∧ FK [] f f1 u)) ([.ref u, .int a, .int b] : List Value).toArray s 0 0 (va_A (va_pl L f) s.heap.size)) (F0 m 32 ls [.int v_60]) := by
        intro v_60 H_j32 locs ls bv_60 hw hl
        refine lv_iload_n G0.1 G0.2.1 dX12_hush_32 rfl (lv_at hl 2 rfl) ?_
        refine lv_icmp_ne (tgt := 38) G0.1 G0.2.1 dX12_hush_33 (by decide) (fun c_61 => ?_) (fun c_61 => ?_)
        · skip
          have tc_61 := ti_ne c_61
          refine lv_aload_n G0.1 G0.2.1 dX12_hush_38 rfl (lv_at hl 0 rfl) ?_
          refine lv_iload_n G0.1 G0.2.1 dX12_hush_39 rfl (lv_at hl 1 rfl) ?_
          refine lv_bipush (v := 7) G0.1 G0.2.1 dX12_hush_40 (by decide) ?_
          refine lv_iload_n G0.1 G0.2.1 dX12_hush_42 rfl (lv_at hl 2 rfl) ?_
          have jn_51 : ∀ (v_62 : Int32) (H_j51 : Heap) (locs : List Loc) (ls : Array Slot), (0 ≤ v_62.toInt ∧ v_62.toInt ≤ 1) → py_W E (va_A (va_pl L f) s.heap.size) s L f H_j51 locs → lv_has ls 3 [(0, .ref u), (1, .int a), (2, .int b)] → W p l e (headSpec w_X12_hush ({ frames := 2, cells := 0, slots := 0, locals := 43 })).room s m ([.ref u, .int a, .int b] : List Value).toArray below meth c H_j51 locs 0 0 (MQ below (py_Qi E L f s.heap.size (fun r L1 f1 => (0 ≤ r.toInt ∧ r.toInt ≤ 1) ∧ WF E G L1 f1 ∧ KP G [55] false f f1 ∧ FK [] f f1 u)) ([.ref u, .int a, .int b] : List Value).toArray s 0 0 (va_A (va_pl L f) s.heap.size)) (F0 m 51 ls [.int v_62, .int 7, .int a, .ref u]) := by
            intro v_62 H_j51 locs ls bv_62 hw hl
            refine py_callv hw (va_runV (As := [.int a, .int 7, .int v_62]) (rest := []) G0 (c_X12_tell l E G L f H_j51.size u a 7 v_62 hG hWF Tu ⟨by omega, by omega⟩ ⟨by omega, by omega⟩ (show ((7 : Int32).toInt = 0 → 0 ≤ v_62.toInt ∧ v_62.toInt ≤ 20) ∧ ((7 : Int32).toInt = 1 → -1 ≤ v_62.toInt ∧ v_62.toInt ≤ 7) by omega)) (cwV 3 G0.2.2.2.2 g_X12_hush_X12_tell_305 rfl rfl rfl (by decide +kernel) ⟨(Nat.le_of_ble_eq_true rfl), (Nat.le_of_ble_eq_true rfl)⟩) (py_preV hw (C := RX12) (T := TX12) (N := 54) rfl hr_35) rfl rfl hl.1 rfl (lv_room (Nat.le_of_ble_eq_true rfl)) dX12_hush_51 ⟨(Nat.le_of_ble_eq_true rfl), (Nat.le_of_ble_eq_true rfl)⟩) (fun L_63 f_64 H_65 locs hp_66 hw => ?_)
            obtain ⟨en_68, hWF, kp_69, fk_70⟩ := hp_66
            have en_68 : TL f f_64 G u a.toInt (7 : Int) v_62.toInt := en_68
            have hFK := hFK.trans fk_70 (by decide)
            have hKP := hKP.trans kp_69 (by decide) (by decide)
            have hr_35 := kp_at kp_69 hWF Tu (by decide) (by decide) (by decide) hr_35
            refine lv_iconst (v := 1) G0.1 G0.2.1 dX12_hush_54 (by decide) ?_
            exact py_iret G0 hr rfl hlk hw ⟨⟨by omega, by omega⟩, hWF, hKP, hFK⟩ dX12_hush_55
          refine lv_if_eq (tgt := 50) G0.1 G0.2.1 dX12_hush_43 (by decide) (fun c_71 => ?_) (fun c_71 => ?_)
          · skip
            have tc_71 := ti_eq c_71
            refine lv_iconst (v := 0) G0.1 G0.2.1 dX12_hush_50 (by decide) ?_
            exact jn_51 0 _ _ ls ⟨by omega, by omega⟩ hw (lv_sub hl [0, 1, 2] rfl)
          · skip
            have tc_71 := ti_ne c_71
            refine lv_iconst (v := 1) G0.1 G0.2.1 dX12_hush_46 (by decide) ?_
            refine lv_goto (tgt := 51) G0.1 G0.2.1 dX12_hush_47 (by decide) ?_
            exact jn_51 1 _ _ ls ⟨by omega, by omega⟩ hw (lv_sub hl [0, 1, 2] rfl)
        · skip
          have tc_61 := ti_eq c_61
          refine lv_iconst (v := 0) G0.1 G0.2.1 dX12_hush_36 (by decide) ?_
          exact py_iret G0 hr rfl hlk hw ⟨⟨by omega, by omega⟩, hWF, hKP, hFK⟩ dX12_hush_37
      refine lv_icmp_ne (tgt := 31) G0.1 G0.2.1 dX12_hush_24 (by decide) (fun c_72 => ?_) (fun c_72 => ?_)
      · skip
        have tc_72 := ti_ne c_72
        refine lv_iconst (v := 0) G0.1 G0.2.1 dX12_hush_31 (by decide) ?_
        exact jn_32 0 _ _ ls ⟨by omega, by omega⟩ hw (lv_sub hl [0, 1, 2] rfl)
      · skip
        have tc_72 := ti_eq c_72
        refine lv_iconst (v := 1) G0.1 G0.2.1 dX12_hush_27 (by decide) ?_
        refine lv_goto (tgt := 32) G0.1 G0.2.1 dX12_hush_28 (by decide) ?_
        exact jn_32 1 _ _ ls ⟨by omega, by omega⟩ hw (lv_sub hl [0, 1, 2] rfl)

def w_X12_most : List Cond := .code yX12_most cX12_most 5 (some .int) :: ([Cond.fieldLink RX12 290 "HeadYearModel" "families" "I", Cond.methodLink RX12 232 yX12_in, Cond.static yX12_in, Cond.initialized RX12, Cond.methodLink RX12 414 yX12_waiters, Cond.instanceMethod yX12_waiters, Cond.selects RX12 yX12_waiters yX12_waiters, Cond.methodLink RX12 391 yJ6_bitCount_0f7a4, Cond.static yJ6_bitCount_0f7a4, Cond.initialized RJ6, Cond.methodLink RX12 417 yX12_canGo, Cond.instanceMethod yX12_canGo, Cond.selects RX12 yX12_canGo yX12_canGo] ++ (u_ws RX12 TX12 54 ++ (w_X12_in ++ (w_X12_waiters ++ (w_J6_bitCount_0f7a4 ++ (w_X12_canGo ++ ([])))))))
theorem in_X12_most_X12 : ∀ w ∈ u_ws RX12 TX12 54, w ∈ w_X12_most := fun _ h => List.mem_cons_of_mem _ (List.mem_append_right _ (List.mem_append_left _ h))
theorem gg_X12_most_X12_in : GoodIn w_X12_most w_X12_in := goodIn_sub (fun _ h => List.mem_cons_of_mem _ (List.mem_append_right _ (List.mem_append_right _ (List.mem_append_left _ h)))) (by decide +kernel)
theorem gg_X12_most_X12_waiters : GoodIn w_X12_most w_X12_waiters := goodIn_sub (fun _ h => List.mem_cons_of_mem _ (List.mem_append_right _ (List.mem_append_right _ (List.mem_append_right _ (List.mem_append_left _ h))))) (by decide +kernel)
theorem gg_X12_most_J6_bitCount_0f7a4 : GoodIn w_X12_most w_J6_bitCount_0f7a4 := goodIn_sub (fun _ h => List.mem_cons_of_mem _ (List.mem_append_right _ (List.mem_append_right _ (List.mem_append_right _ (List.mem_append_right _ (List.mem_append_left _ h)))))) (by decide +kernel)
theorem gg_X12_most_X12_canGo : GoodIn w_X12_most w_X12_canGo := goodIn_sub (fun _ h => List.mem_cons_of_mem _ (List.mem_append_right _ (List.mem_append_right _ (List.mem_append_right _ (List.mem_append_right _ (List.mem_append_right _ (List.mem_append_left _ h))))))) (by decide +kernel)
theorem g_X12_most_J6_bitCount_0f7a4_391 : GoodIn w_X12_most (va_wsS RX12 391 yJ6_bitCount_0f7a4 w_J6_bitCount_0f7a4) := goodIn_app (goodIn_of _ (by decide +kernel)) gg_X12_most_J6_bitCount_0f7a4
theorem g_X12_most_X12_canGo_417 : GoodIn w_X12_most (wsV RX12 417 RX12 yX12_canGo w_X12_canGo) := goodIn_app (goodIn_of _ (by decide +kernel)) gg_X12_most_X12_canGo
theorem g_X12_most_X12_in_232 : GoodIn w_X12_most (va_wsS RX12 232 yX12_in w_X12_in) := goodIn_app (goodIn_of _ (by decide +kernel)) gg_X12_most_X12_in
theorem g_X12_most_X12_waiters_414 : GoodIn w_X12_most (wsV RX12 414 RX12 yX12_waiters w_X12_waiters) := goodIn_app (goodIn_of _ (by decide +kernel)) gg_X12_most_X12_waiters
set_option maxHeartbeats 4000000 in
set_option maxRecDepth 100000 in
theorem c_X12_most (l : Launch) (E : py_E) (G : wf_G) (L : List Nat) (f : py_F) (sz : Nat) (u : Nat) (a : Int32) (hG : GT G) (hWF : WF E G L f) (Tu : G.1 u = 13) : Met l yX12_most w_X12_most ({ frames := 5, cells := 0, slots := 0, locals := 110 }) (py_Pc E [.ref u, .int a] L f sz) (py_Qi E L f sz (fun _ L1 f1 => L = L1 ∧ f = f1)) 0 0 (va_A (va_pl L f) sz) := by
  refine Met.ofW (cc := cX12_most) (maxL := 5) (ret := (some .int)) (by decide) rfl ?_
  intro p e s m args below meth c s₁ B hml hv
  obtain ⟨rfl, rfl, hw⟩ := py_start hv
  have G0 : CallFix p m c cX12_most 5 s _ w_X12_most RX12 := ⟨B.exec, B.bytes, hml, findClass_of_methodNamed B.named, atoms_spec (ws := w_X12_most) B.pre⟩
  have hr := B.returns
  have hlk := B.notSynchronized
  have kcm1 : (-1 : Int32).toInt = -1 := rfl
  have kc0 : (0 : Int32).toInt = 0 := rfl
  have kc1 : (1 : Int32).toInt = 1 := rfl
  have hl := lv_entry ([.ref u, .int a]) (n := 5) (Nat.le_of_ble_eq_true rfl)
  rw [lg_entry_eq]
  generalize (lg_sl ([.ref u, .int a]) ++ List.replicate (5 - (lg_sl ([.ref u, .int a])).length) Slot.unset).toArray = ls at hl ⊢
  have hl : lv_has ls 5 [(0, .ref u), (1, .int a)] := hl
  refine lv_aload_n G0.1 G0.2.1 dX12_most_0 rfl (lv_at hl 0 rfl) ?_
  obtain ⟨v_1, v_2, v_3, v_4, v_5, v_6, v_7, v_8, v_9, v_10, v_11, v_12, y_13, v_14, v_15, v_16, v_17, v_18, y_19, v_20, y_21, v_22, hr_35, b_23, b_24, b_25, b_26, b_27, b_28, b_29, b_30, b_31, b_32, b_33, b_34⟩ := wg_12 hWF Tu
  refine py_get (C := RX12) (T := TX12) (N := 54) (k := 25) (v := .int v_11) G0 hw in_X12_most_X12 rfl hr_35 (by decide) (by decide +kernel) rfl dX12_most_1 ?_
  refine lv_if_eq (tgt := 16) G0.1 G0.2.1 dX12_most_4 (by decide) (fun c_36 => ?_) (fun c_36 => ?_)
  · skip
    have tc_36 := ti_eq c_36
    refine lv_iconst (v := (-1)) G0.1 G0.2.1 dX12_most_16 (by decide) ?_
    exact py_iret G0 hr rfl hlk hw ⟨rfl, rfl⟩ dX12_most_17
  · skip
    have tc_36 := ti_ne c_36
    refine lv_iload_n G0.1 G0.2.1 dX12_most_7 rfl (lv_at hl 1 rfl) ?_
    refine lv_iconst (v := 0) G0.1 G0.2.1 dX12_most_8 (by decide) ?_
    refine lv_iconst (v := 1) G0.1 G0.2.1 dX12_most_9 (by decide) ?_
    refine py_calli hw (va_runS (As := [.int a, .int 0, .int 1]) (rest := []) G0 (c_X12_in l E G L f s.heap.size a 0 1 hG hWF) (va_cwS 3 G0.2.2.2.2 g_X12_most_X12_in_232 rfl rfl rfl (by decide +kernel) ⟨(Nat.le_of_ble_eq_true rfl), (Nat.le_of_ble_eq_true rfl)⟩) (py_preS hw) rfl rfl hl.1 rfl (lv_room (Nat.le_of_ble_eq_true rfl)) dX12_most_10 ⟨(Nat.le_of_ble_eq_true rfl), (Nat.le_of_ble_eq_true rfl)⟩) (fun r_41 L_37 f_38 H_39 locs hp_40 hw => ?_)
    obtain ⟨b_44, en_42, en_43, rfl, rfl⟩ := hp_40
    have en_42 : r_41.toInt ≠ 0 → (0 : Int) ≤ a.toInt ∧ a.toInt ≤ (1 : Int) := en_42
    have en_43 : r_41.toInt = 0 → a.toInt < (0 : Int) ∨ (1 : Int) < a.toInt := en_43
    refine lv_if_ne (tgt := 18) G0.1 G0.2.1 dX12_most_13 (by decide) (fun c_45 => ?_) (fun c_45 => ?_)
    · skip
      have tc_45 := ti_ne c_45
      replace en_42 := en_42 (by omega)
      clear en_43
      refine lv_iconst (v := 0) G0.1 G0.2.1 dX12_most_18 (by decide) ?_
      refine lv_istore_n (lv' := [(2, .int 0), (0, .ref u), (1, .int a)]) G0.1 G0.2.1 dX12_most_19 rfl hl (by decide) rfl (fun ls hl => ?_)
      refine lv_aload_n G0.1 G0.2.1 dX12_most_20 rfl (lv_at hl 1 rfl) ?_
      refine py_calli hw (va_runV (As := []) (rest := []) G0 (c_X12_waiters l E G L f H_39.size u hG hWF Tu) (cwV 0 G0.2.2.2.2 g_X12_most_X12_waiters_414 rfl rfl rfl (by decide +kernel) ⟨(Nat.le_of_ble_eq_true rfl), (Nat.le_of_ble_eq_true rfl)⟩) (py_preV hw (C := RX12) (T := TX12) (N := 54) rfl hr_35) rfl rfl hl.1 rfl (lv_room (Nat.le_of_ble_eq_true rfl)) dX12_most_21 ⟨(Nat.le_of_ble_eq_true rfl), (Nat.le_of_ble_eq_true rfl)⟩) (fun r_50 L_46 f_47 H_48 locs hp_49 hw => ?_)
      obtain ⟨b_51, rfl, rfl⟩ := hp_49
      refine lv_istore_n (lv' := [(3, .int r_50), (2, .int 0), (0, .ref u), (1, .int a)]) G0.1 G0.2.1 dX12_most_24 rfl hl (by decide) rfl (fun ls hl => ?_)
      refine lv_iconst (v := 1) G0.1 G0.2.1 dX12_most_25 (by decide) ?_
      refine lv_istore (lv' := [(4, .int 1), (3, .int r_50), (2, .int 0), (0, .ref u), (1, .int a)]) G0.1 G0.2.1 dX12_most_26 hl (by decide) rfl (fun ls hl => ?_)
      have lo_28 : ∀ n_28 : Nat, ∀ (v_52 : Int32) (v_53 : Int32) (H_j28 : Heap) (locs : List Loc) (ls : Array Slot), (2147483647 - v_52.toInt).toNat = n_28 → (1 ≤ v_52.toInt ∧ v_52.toInt ≤ 2147483647) → py_W E (va_A (va_pl L f) s.heap.size) s L f H_j28 locs → lv_has ls 5 [(4, .int v_52), (3, .int r_50), (2, .int v_53), (0, .ref u), (1, .int a)] → W p l e (headSpec w_X12_most ({ frames := 5, cells := 0, slots := 0, locals := 110 })).room s m ([.ref u, .int a] : List Value).toArray below meth c H_j28 locs 0 0 (MQ below (py_Qi E L f s.heap.size (fun _ L1 f1 => L = L1 ∧ f = f1)) ([.ref u, .int a] : List Value).toArray s 0 0 (va_A (va_pl L f) s.heap.size)) (F0 m 28 ls []) := by
        intro n_28
        induction n_28 using Nat.strongRecOn with
        | _ n_28 ih_28 =>
          intro v_52 v_53 H_j28 locs ls hn_28 bv_52 hw hl
          refine lv_iload G0.1 G0.2.1 dX12_most_28 (lv_at hl 0 rfl) ?_
          refine lv_iload_n G0.1 G0.2.1 dX12_most_30 rfl (lv_at hl 1 rfl) ?_
          refine lv_icmp_gt (tgt := 77) G0.1 G0.2.1 dX12_most_31 (by decide) (fun c_54 => ?_) (fun c_54 => ?_)
          · skip
            have tc_54 := ti_lt c_54
            refine lv_iload_n G0.1 G0.2.1 dX12_most_77 rfl (lv_at hl 4 rfl) ?_
            have jn_89 : ∀ (v_55 : Int32) (H_j89 : Heap) (locs : List Loc) (ls : Array Slot), py_W E (va_A (va_pl L f) s.heap.size) s L f H_j89 locs → lv_has ls 5 [(4, .int v_52), (3, .int r_50), (2, .int v_53), (0, .ref u), (1, .int a)] → W p l e (headSpec w_X12_most ({ frames := 5, cells := 0, slots := 0, locals := 110 })).room s m ([.ref u, .int a] : List Value).toArray below meth c H_j89 locs 0 0 (MQ below (py_Qi E L f s.heap.size (fun _ L1 f1 => L = L1 ∧ f = f1)) ([.ref u, .int a] : List Value).toArray s 0 0 (va_A (va_pl L f) s.heap.size)) (F0 m 89 ls [.int v_55]) := by
              intro v_55 H_j89 locs ls hw hl
              exact py_iret G0 hr rfl hlk hw ⟨rfl, rfl⟩ dX12_most_89
            refine lv_if_ne (tgt := 88) G0.1 G0.2.1 dX12_most_78 (by decide) (fun c_56 => ?_) (fun c_56 => ?_)
            · skip
              have tc_56 := ti_ne c_56
              refine lv_iload_n G0.1 G0.2.1 dX12_most_88 rfl (lv_at hl 2 rfl) ?_
              exact jn_89 v_53 _ _ ls hw (lv_sub hl [0, 1, 2, 3, 4] rfl)
            · skip
              have tc_56 := ti_eq c_56
              refine lv_iload_n G0.1 G0.2.1 dX12_most_81 rfl (lv_at hl 2 rfl) ?_
              refine py_calli hw (va_runS (As := [.int v_53]) (rest := []) G0 (c_J6_bitCount_0f7a4 l E G L f H_j28.size v_53 hG hWF) (va_cwS 1 G0.2.2.2.2 g_X12_most_J6_bitCount_0f7a4_391 rfl rfl rfl (by decide +kernel) ⟨(Nat.le_of_ble_eq_true rfl), (Nat.le_of_ble_eq_true rfl)⟩) (py_preS hw) rfl rfl hl.1 rfl (lv_room (Nat.le_of_ble_eq_true rfl)) dX12_most_82 ⟨(Nat.le_of_ble_eq_true rfl), (Nat.le_of_ble_eq_true rfl)⟩) (fun r_61 L_57 f_58 H_59 locs hp_60 hw => ?_)
              obtain ⟨rfl, rfl⟩ := hp_60
              have br_61 := wf_free r_61
              refine lv_goto (tgt := 89) G0.1 G0.2.1 dX12_most_85 (by decide) ?_
              exact jn_89 r_61 _ _ ls hw (lv_sub hl [0, 1, 2, 3, 4] rfl)
          · skip
            have tc_54 := ti_nlt c_54
            refine lv_iload G0.1 G0.2.1 dX12_most_34 (lv_at hl 0 rfl) ?_
            refine lv_iload_n G0.1 G0.2.1 dX12_most_36 rfl (lv_at hl 1 rfl) ?_
            refine lv_iconst (v := (-1)) G0.1 G0.2.1 dX12_most_37 (by decide) ?_
            refine lv_ixor G0.1 G0.2.1 dX12_most_38 ?_
            refine lv_topi (fun x_62 ex_62 => ?_)
            refine lv_iand G0.1 G0.2.1 dX12_most_39 ?_
            refine lv_topi (fun x_63 ex_63 => ?_)
            have jn_70 : ∀ (v_64 : Int32) (H_j70 : Heap) (locs : List Loc) (ls : Array Slot), py_W E (va_A (va_pl L f) s.heap.size) s L f H_j70 locs → lv_has ls 5 [(4, .int v_52), (3, .int r_50), (2, .int v_53), (0, .ref u), (1, .int a)] → W p l e (headSpec w_X12_most ({ frames := 5, cells := 0, slots := 0, locals := 110 })).room s m ([.ref u, .int a] : List Value).toArray below meth c H_j70 locs 0 0 (MQ below (py_Qi E L f s.heap.size (fun _ L1 f1 => L = L1 ∧ f = f1)) ([.ref u, .int a] : List Value).toArray s 0 0 (va_A (va_pl L f) s.heap.size)) (F0 m 70 ls [.int v_64]) := by
              intro v_64 H_j70 locs ls hw hl
              refine lv_istore_n (lv' := [(2, .int v_64), (4, .int v_52), (3, .int r_50), (0, .ref u), (1, .int a)]) G0.1 G0.2.1 dX12_most_70 rfl hl (by decide) rfl (fun ls hl => ?_)
              obtain ⟨x_65, ex_65⟩ : ∃ y : Int32, y = v_52 + 1 := ⟨_, rfl⟩
              first | have tx_65 := ti_add ex_65 (by omega -splitDisjunctions) (by omega -splitDisjunctions) | skip
              refine lv_iinc (v := x_65) (lv' := [(4, .int x_65), (2, .int v_64), (3, .int r_50), (0, .ref u), (1, .int a)]) G0.1 G0.2.1 dX12_most_71 hl (k := 1) rfl (show _ + (1 : Int32) = _ from ex_65.symm) (by decide) rfl (fun ls hl => ?_)
              refine lv_goto (tgt := 28) G0.1 G0.2.1 dX12_most_74 (by decide) ?_
              exact ih_28 ((2147483647 - x_65.toInt).toNat) (by omega) x_65 v_64 _ _ ls rfl ⟨by omega, by omega⟩ hw (lv_sub hl [0, 2, 1, 3, 4] rfl)
            refine lv_if_ne (tgt := 69) G0.1 G0.2.1 dX12_most_40 (by decide) (fun c_66 => ?_) (fun c_66 => ?_)
            · skip
              have tc_66 := ti_ne c_66
              refine lv_iload_n G0.1 G0.2.1 dX12_most_69 rfl (lv_at hl 2 rfl) ?_
              exact jn_70 v_53 _ _ ls hw (lv_sub hl [0, 1, 2, 3, 4] rfl)
            · skip
              have tc_66 := ti_eq c_66
              refine lv_iload G0.1 G0.2.1 dX12_most_43 (lv_at hl 0 rfl) ?_
              refine py_calli hw (va_runS (As := [.int v_52]) (rest := []) G0 (c_J6_bitCount_0f7a4 l E G L f H_j28.size v_52 hG hWF) (va_cwS 1 G0.2.2.2.2 g_X12_most_J6_bitCount_0f7a4_391 rfl rfl rfl (by decide +kernel) ⟨(Nat.le_of_ble_eq_true rfl), (Nat.le_of_ble_eq_true rfl)⟩) (py_preS hw) rfl rfl hl.1 rfl (lv_room (Nat.le_of_ble_eq_true rfl)) dX12_most_45 ⟨(Nat.le_of_ble_eq_true rfl), (Nat.le_of_ble_eq_true rfl)⟩) (fun r_71 L_67 f_68 H_69 locs hp_70 hw => ?_)
              obtain ⟨rfl, rfl⟩ := hp_70
              have br_71 := wf_free r_71
              refine lv_iload_n G0.1 G0.2.1 dX12_most_48 rfl (lv_at hl 2 rfl) ?_
              refine py_calli hw (va_runS (As := [.int v_53]) (rest := [.int r_71]) G0 (c_J6_bitCount_0f7a4 l E G L f H_69.size v_53 hG hWF) (va_cwS 1 G0.2.2.2.2 g_X12_most_J6_bitCount_0f7a4_391 rfl rfl rfl (by decide +kernel) ⟨(Nat.le_of_ble_eq_true rfl), (Nat.le_of_ble_eq_true rfl)⟩) (py_preS hw) rfl rfl hl.1 rfl (lv_room (Nat.le_of_ble_eq_true rfl)) dX12_most_49 ⟨(Nat.le_of_ble_eq_true rfl), (Nat.le_of_ble_eq_true rfl)⟩) (fun r_76 L_72 f_73 H_74 locs hp_75 hw => ?_)
              obtain ⟨rfl, rfl⟩ := hp_75
              have br_76 := wf_free r_76
              refine lv_icmp_le (tgt := 69) G0.1 G0.2.1 dX12_most_52 (by decide) (fun c_77 => ?_) (fun c_77 => ?_)
              · skip
                have tc_77 := ti_le c_77
                refine lv_iload_n G0.1 G0.2.1 dX12_most_69 rfl (lv_at hl 2 rfl) ?_
                exact jn_70 v_53 _ _ ls hw (lv_sub hl [0, 1, 2, 3, 4] rfl)
              · skip
                have tc_77 := ti_nle c_77
                refine lv_aload_n G0.1 G0.2.1 dX12_most_55 rfl (lv_at hl 3 rfl) ?_
                refine lv_iload G0.1 G0.2.1 dX12_most_56 (lv_at hl 0 rfl) ?_
                refine py_calli hw (va_runV (As := [.int v_52]) (rest := []) G0 (c_X12_canGo l E G L f H_74.size u v_52 hG hWF Tu) (cwV 1 G0.2.2.2.2 g_X12_most_X12_canGo_417 rfl rfl rfl (by decide +kernel) ⟨(Nat.le_of_ble_eq_true rfl), (Nat.le_of_ble_eq_true rfl)⟩) (py_preV hw (C := RX12) (T := TX12) (N := 54) rfl hr_35) rfl rfl hl.1 rfl (lv_room (Nat.le_of_ble_eq_true rfl)) dX12_most_58 ⟨(Nat.le_of_ble_eq_true rfl), (Nat.le_of_ble_eq_true rfl)⟩) (fun r_82 L_78 f_79 H_80 locs hp_81 hw => ?_)
                obtain ⟨b_83, rfl, rfl⟩ := hp_81
                refine lv_if_eq (tgt := 69) G0.1 G0.2.1 dX12_most_61 (by decide) (fun c_84 => ?_) (fun c_84 => ?_)
                · skip
                  have tc_84 := ti_eq c_84
                  refine lv_iload_n G0.1 G0.2.1 dX12_most_69 rfl (lv_at hl 2 rfl) ?_
                  exact jn_70 v_53 _ _ ls hw (lv_sub hl [0, 1, 2, 3, 4] rfl)
                · skip
                  have tc_84 := ti_ne c_84
                  refine lv_iload G0.1 G0.2.1 dX12_most_64 (lv_at hl 0 rfl) ?_
                  refine lv_goto (tgt := 70) G0.1 G0.2.1 dX12_most_66 (by decide) ?_
                  exact jn_70 v_52 _ _ ls hw (lv_sub hl [0, 1, 2, 3, 4] rfl)
      exact lo_28 _ 1 0 _ _ ls rfl ⟨by omega, by omega⟩ hw (lv_sub hl [0, 1, 2, 3, 4] rfl)
    · skip
      have tc_45 := ti_eq c_45
      clear en_42
      replace en_43 := en_43 (by omega)
      refine lv_iconst (v := (-1)) G0.1 G0.2.1 dX12_most_16 (by decide) ?_
      exact py_iret G0 hr rfl hlk hw ⟨rfl, rfl⟩ dX12_most_17
