theorem dX12_buy_0 : decode cX12_buy 0 = .ok (.aload_n 0, 1) := by decide +kernel
theorem dX12_buy_1 : decode cX12_buy 1 = .ok (.iload_n 1, 1) := by decide +kernel
theorem dX12_buy_2 : decode cX12_buy 2 = .ok (.invokevirtual 347, 3) := by decide +kernel
theorem dX12_buy_5 : decode cX12_buy 5 = .ok (.ifCond .eq 52, 3) := by decide +kernel
theorem dX12_buy_8 : decode cX12_buy 8 = .ok (.aload_n 0, 1) := by decide +kernel
theorem dX12_buy_9 : decode cX12_buy 9 = .ok (.iload_n 1, 1) := by decide +kernel
theorem dX12_buy_10 : decode cX12_buy 10 = .ok (.invokevirtual 341, 3) := by decide +kernel
theorem dX12_buy_13 : decode cX12_buy 13 = .ok (.ifCond .ne 44, 3) := by decide +kernel
theorem dX12_buy_16 : decode cX12_buy 16 = .ok (.iload_n 2, 1) := by decide +kernel
theorem dX12_buy_17 : decode cX12_buy 17 = .ok (.bipush (-3), 2) := by decide +kernel
theorem dX12_buy_19 : decode cX12_buy 19 = .ok (.iconst 3, 1) := by decide +kernel
theorem dX12_buy_20 : decode cX12_buy 20 = .ok (.invokestatic 232, 3) := by decide +kernel
theorem dX12_buy_23 : decode cX12_buy 23 = .ok (.ifCond .eq 34, 3) := by decide +kernel
theorem dX12_buy_26 : decode cX12_buy 26 = .ok (.iload_n 2, 1) := by decide +kernel
theorem dX12_buy_27 : decode cX12_buy 27 = .ok (.ifCond .eq 30, 3) := by decide +kernel
theorem dX12_buy_30 : decode cX12_buy 30 = .ok (.aload_n 0, 1) := by decide +kernel
theorem dX12_buy_31 : decode cX12_buy 31 = .ok (.iload_n 1, 1) := by decide +kernel
theorem dX12_buy_32 : decode cX12_buy 32 = .ok (.bipush 6, 2) := by decide +kernel
theorem dX12_buy_34 : decode cX12_buy 34 = .ok (.invokevirtual 287, 3) := by decide +kernel
theorem dX12_buy_37 : decode cX12_buy 37 = .ok (.iload_n 2, 1) := by decide +kernel
theorem dX12_buy_38 : decode cX12_buy 38 = .ok (.iadd, 1) := by decide +kernel
theorem dX12_buy_39 : decode cX12_buy 39 = .ok (.bipush (-3), 2) := by decide +kernel
theorem dX12_buy_41 : decode cX12_buy 41 = .ok (.iconst 3, 1) := by decide +kernel
theorem dX12_buy_42 : decode cX12_buy 42 = .ok (.invokestatic 232, 3) := by decide +kernel
theorem dX12_buy_45 : decode cX12_buy 45 = .ok (.ifCond .eq 12, 3) := by decide +kernel
theorem dX12_buy_48 : decode cX12_buy 48 = .ok (.aload_n 0, 1) := by decide +kernel
theorem dX12_buy_49 : decode cX12_buy 49 = .ok (.getfield 312, 3) := by decide +kernel
theorem dX12_buy_52 : decode cX12_buy 52 = .ok (.bipush 40, 2) := by decide +kernel
theorem dX12_buy_54 : decode cX12_buy 54 = .ok (.if_icmp .ne 5, 3) := by decide +kernel
theorem dX12_buy_57 : decode cX12_buy 57 = .ok (.iconst (-1), 1) := by decide +kernel
theorem dX12_buy_58 : decode cX12_buy 58 = .ok (.ireturn, 1) := by decide +kernel
theorem dX12_buy_59 : decode cX12_buy 59 = .ok (.aload_n 0, 1) := by decide +kernel
theorem dX12_buy_60 : decode cX12_buy 60 = .ok (.getfield 71, 3) := by decide +kernel
theorem dX12_buy_63 : decode cX12_buy 63 = .ok (.iload_n 2, 1) := by decide +kernel
theorem dX12_buy_64 : decode cX12_buy 64 = .ok (.invokestatic 411, 3) := by decide +kernel
theorem dX12_buy_67 : decode cX12_buy 67 = .ok (.imul, 1) := by decide +kernel
theorem dX12_buy_68 : decode cX12_buy 68 = .ok (.istore_n 3, 1) := by decide +kernel
theorem dX12_buy_69 : decode cX12_buy 69 = .ok (.aload_n 0, 1) := by decide +kernel
theorem dX12_buy_70 : decode cX12_buy 70 = .ok (.iload_n 1, 1) := by decide +kernel
theorem dX12_buy_71 : decode cX12_buy 71 = .ok (.bipush 6, 2) := by decide +kernel
theorem dX12_buy_73 : decode cX12_buy 73 = .ok (.aload_n 0, 1) := by decide +kernel
theorem dX12_buy_74 : decode cX12_buy 74 = .ok (.iload_n 1, 1) := by decide +kernel
theorem dX12_buy_75 : decode cX12_buy 75 = .ok (.bipush 6, 2) := by decide +kernel
theorem dX12_buy_77 : decode cX12_buy 77 = .ok (.invokevirtual 287, 3) := by decide +kernel
theorem dX12_buy_80 : decode cX12_buy 80 = .ok (.iload_n 2, 1) := by decide +kernel
theorem dX12_buy_81 : decode cX12_buy 81 = .ok (.iadd, 1) := by decide +kernel
theorem dX12_buy_82 : decode cX12_buy 82 = .ok (.invokevirtual 305, 3) := by decide +kernel
theorem dX12_buy_85 : decode cX12_buy 85 = .ok (.aload_n 0, 1) := by decide +kernel
theorem dX12_buy_86 : decode cX12_buy 86 = .ok (.iload_n 1, 1) := by decide +kernel
theorem dX12_buy_87 : decode cX12_buy 87 = .ok (.bipush 8, 2) := by decide +kernel
theorem dX12_buy_89 : decode cX12_buy 89 = .ok (.aload_n 0, 1) := by decide +kernel
theorem dX12_buy_90 : decode cX12_buy 90 = .ok (.iload_n 1, 1) := by decide +kernel
theorem dX12_buy_91 : decode cX12_buy 91 = .ok (.bipush 8, 2) := by decide +kernel
theorem dX12_buy_93 : decode cX12_buy 93 = .ok (.invokevirtual 287, 3) := by decide +kernel
theorem dX12_buy_96 : decode cX12_buy 96 = .ok (.iload_n 3, 1) := by decide +kernel
theorem dX12_buy_97 : decode cX12_buy 97 = .ok (.iadd, 1) := by decide +kernel
theorem dX12_buy_98 : decode cX12_buy 98 = .ok (.invokevirtual 305, 3) := by decide +kernel
theorem dX12_buy_101 : decode cX12_buy 101 = .ok (.aload_n 0, 1) := by decide +kernel
theorem dX12_buy_102 : decode cX12_buy 102 = .ok (.getfield 89, 3) := by decide +kernel
theorem dX12_buy_105 : decode cX12_buy 105 = .ok (.aload_n 0, 1) := by decide +kernel
theorem dX12_buy_106 : decode cX12_buy 106 = .ok (.getfield 312, 3) := by decide +kernel
theorem dX12_buy_109 : decode cX12_buy 109 = .ok (.iload_n 1, 1) := by decide +kernel
theorem dX12_buy_110 : decode cX12_buy 110 = .ok (.iastore, 1) := by decide +kernel
theorem dX12_buy_111 : decode cX12_buy 111 = .ok (.aload_n 0, 1) := by decide +kernel
theorem dX12_buy_112 : decode cX12_buy 112 = .ok (.getfield 92, 3) := by decide +kernel
theorem dX12_buy_115 : decode cX12_buy 115 = .ok (.aload_n 0, 1) := by decide +kernel
theorem dX12_buy_116 : decode cX12_buy 116 = .ok (.getfield 312, 3) := by decide +kernel
theorem dX12_buy_119 : decode cX12_buy 119 = .ok (.iload_n 2, 1) := by decide +kernel
theorem dX12_buy_120 : decode cX12_buy 120 = .ok (.iastore, 1) := by decide +kernel
theorem dX12_buy_121 : decode cX12_buy 121 = .ok (.aload_n 0, 1) := by decide +kernel
theorem dX12_buy_122 : decode cX12_buy 122 = .ok (.getfield 95, 3) := by decide +kernel
theorem dX12_buy_125 : decode cX12_buy 125 = .ok (.aload_n 0, 1) := by decide +kernel
theorem dX12_buy_126 : decode cX12_buy 126 = .ok (.getfield 312, 3) := by decide +kernel
theorem dX12_buy_129 : decode cX12_buy 129 = .ok (.iload_n 3, 1) := by decide +kernel
theorem dX12_buy_130 : decode cX12_buy 130 = .ok (.iastore, 1) := by decide +kernel
theorem dX12_buy_131 : decode cX12_buy 131 = .ok (.aload_n 0, 1) := by decide +kernel
theorem dX12_buy_132 : decode cX12_buy 132 = .ok (.dup, 1) := by decide +kernel
theorem dX12_buy_133 : decode cX12_buy 133 = .ok (.getfield 312, 3) := by decide +kernel
theorem dX12_buy_136 : decode cX12_buy 136 = .ok (.iconst 1, 1) := by decide +kernel
theorem dX12_buy_137 : decode cX12_buy 137 = .ok (.iadd, 1) := by decide +kernel
theorem dX12_buy_138 : decode cX12_buy 138 = .ok (.putfield 312, 3) := by decide +kernel
theorem dX12_buy_141 : decode cX12_buy 141 = .ok (.iload_n 3, 1) := by decide +kernel
theorem dX12_buy_142 : decode cX12_buy 142 = .ok (.ireturn, 1) := by decide +kernel
theorem dX12_undo_0 : decode cX12_undo 0 = .ok (.aload_n 0, 1) := by decide +kernel
theorem dX12_undo_1 : decode cX12_undo 1 = .ok (.getfield 312, 3) := by decide +kernel
theorem dX12_undo_4 : decode cX12_undo 4 = .ok (.ifCond .ne 5, 3) := by decide +kernel
theorem dX12_undo_7 : decode cX12_undo 7 = .ok (.iconst (-1), 1) := by decide +kernel
theorem dX12_undo_8 : decode cX12_undo 8 = .ok (.ireturn, 1) := by decide +kernel
theorem dX12_undo_9 : decode cX12_undo 9 = .ok (.aload_n 0, 1) := by decide +kernel
theorem dX12_undo_10 : decode cX12_undo 10 = .ok (.dup, 1) := by decide +kernel
theorem dX12_undo_11 : decode cX12_undo 11 = .ok (.getfield 312, 3) := by decide +kernel
theorem dX12_undo_14 : decode cX12_undo 14 = .ok (.iconst 1, 1) := by decide +kernel
theorem dX12_undo_15 : decode cX12_undo 15 = .ok (.isub, 1) := by decide +kernel
theorem dX12_undo_16 : decode cX12_undo 16 = .ok (.putfield 312, 3) := by decide +kernel
theorem dX12_undo_19 : decode cX12_undo 19 = .ok (.aload_n 0, 1) := by decide +kernel
theorem dX12_undo_20 : decode cX12_undo 20 = .ok (.getfield 89, 3) := by decide +kernel
theorem dX12_undo_23 : decode cX12_undo 23 = .ok (.aload_n 0, 1) := by decide +kernel
theorem dX12_undo_24 : decode cX12_undo 24 = .ok (.getfield 312, 3) := by decide +kernel
theorem dX12_undo_27 : decode cX12_undo 27 = .ok (.iaload, 1) := by decide +kernel
theorem dX12_undo_28 : decode cX12_undo 28 = .ok (.istore_n 1, 1) := by decide +kernel
theorem dX12_undo_29 : decode cX12_undo 29 = .ok (.aload_n 0, 1) := by decide +kernel
theorem dX12_undo_30 : decode cX12_undo 30 = .ok (.iload_n 1, 1) := by decide +kernel
theorem dX12_undo_31 : decode cX12_undo 31 = .ok (.bipush 6, 2) := by decide +kernel
theorem dX12_undo_33 : decode cX12_undo 33 = .ok (.aload_n 0, 1) := by decide +kernel
theorem dX12_undo_34 : decode cX12_undo 34 = .ok (.iload_n 1, 1) := by decide +kernel
theorem dX12_undo_35 : decode cX12_undo 35 = .ok (.bipush 6, 2) := by decide +kernel
theorem dX12_undo_37 : decode cX12_undo 37 = .ok (.invokevirtual 287, 3) := by decide +kernel
theorem dX12_undo_40 : decode cX12_undo 40 = .ok (.aload_n 0, 1) := by decide +kernel
theorem dX12_undo_41 : decode cX12_undo 41 = .ok (.getfield 92, 3) := by decide +kernel
theorem dX12_undo_44 : decode cX12_undo 44 = .ok (.aload_n 0, 1) := by decide +kernel
theorem dX12_undo_45 : decode cX12_undo 45 = .ok (.getfield 312, 3) := by decide +kernel
theorem dX12_undo_48 : decode cX12_undo 48 = .ok (.iaload, 1) := by decide +kernel
theorem dX12_undo_49 : decode cX12_undo 49 = .ok (.isub, 1) := by decide +kernel
theorem dX12_undo_50 : decode cX12_undo 50 = .ok (.invokevirtual 305, 3) := by decide +kernel
theorem dX12_undo_53 : decode cX12_undo 53 = .ok (.aload_n 0, 1) := by decide +kernel
theorem dX12_undo_54 : decode cX12_undo 54 = .ok (.iload_n 1, 1) := by decide +kernel
theorem dX12_undo_55 : decode cX12_undo 55 = .ok (.bipush 8, 2) := by decide +kernel
theorem dX12_undo_57 : decode cX12_undo 57 = .ok (.aload_n 0, 1) := by decide +kernel
theorem dX12_undo_58 : decode cX12_undo 58 = .ok (.iload_n 1, 1) := by decide +kernel
theorem dX12_undo_59 : decode cX12_undo 59 = .ok (.bipush 8, 2) := by decide +kernel
theorem dX12_undo_61 : decode cX12_undo 61 = .ok (.invokevirtual 287, 3) := by decide +kernel
theorem dX12_undo_64 : decode cX12_undo 64 = .ok (.aload_n 0, 1) := by decide +kernel
theorem dX12_undo_65 : decode cX12_undo 65 = .ok (.getfield 95, 3) := by decide +kernel
theorem dX12_undo_68 : decode cX12_undo 68 = .ok (.aload_n 0, 1) := by decide +kernel
theorem dX12_undo_69 : decode cX12_undo 69 = .ok (.getfield 312, 3) := by decide +kernel
theorem dX12_undo_72 : decode cX12_undo 72 = .ok (.iaload, 1) := by decide +kernel
theorem dX12_undo_73 : decode cX12_undo 73 = .ok (.isub, 1) := by decide +kernel
theorem dX12_undo_74 : decode cX12_undo 74 = .ok (.invokevirtual 305, 3) := by decide +kernel
theorem dX12_undo_77 : decode cX12_undo 77 = .ok (.iload_n 1, 1) := by decide +kernel
theorem dX12_undo_78 : decode cX12_undo 78 = .ok (.ireturn, 1) := by decide +kernel
def w_X12_buy : List Cond := .code yX12_buy cX12_buy 4 (some .int) :: ([Cond.methodLink RX12 347 yX12_isFamily, Cond.instanceMethod yX12_isFamily, Cond.selects RX12 yX12_isFamily yX12_isFamily, Cond.initialized RX12, Cond.methodLink RX12 341 yX12_isGone, Cond.instanceMethod yX12_isGone, Cond.selects RX12 yX12_isGone yX12_isGone, Cond.methodLink RX12 232 yX12_in, Cond.static yX12_in, Cond.methodLink RX12 287 yX12_of, Cond.instanceMethod yX12_of, Cond.selects RX12 yX12_of yX12_of, Cond.fieldLink RX12 312 "HeadYearModel" "buys" "I", Cond.fieldLink RX12 71 "HeadYearModel" "price" "I", Cond.methodLink RX12 411 Lib.Math.abs.name, Cond.static Lib.Math.abs.name, Cond.initialized "java/lang/Math", Cond.code Lib.Math.abs.name Lib.Math.abs.code 1 (some .int), Cond.methodLink RX12 305 yX12_tell, Cond.instanceMethod yX12_tell, Cond.selects RX12 yX12_tell yX12_tell, Cond.fieldLink RX12 89 "HeadYearModel" "buyer" "[I", Cond.fieldLink RX12 92 "HeadYearModel" "buyBy" "[I", Cond.fieldLink RX12 95 "HeadYearModel" "buyCost" "[I"] ++ (u_ws RX12 TX12 54 ++ (w_X12_isFamily ++ (w_X12_isGone ++ (w_X12_in ++ (w_X12_of ++ (w_X12_tell ++ ([]))))))))
theorem in_X12_buy_X12 : ∀ w ∈ u_ws RX12 TX12 54, w ∈ w_X12_buy := fun _ h => List.mem_cons_of_mem _ (List.mem_append_right _ (List.mem_append_left _ h))
theorem gg_X12_buy_X12_isFamily : GoodIn w_X12_buy w_X12_isFamily := goodIn_sub (fun _ h => List.mem_cons_of_mem _ (List.mem_append_right _ (List.mem_append_right _ (List.mem_append_left _ h)))) (by decide +kernel)
theorem gg_X12_buy_X12_isGone : GoodIn w_X12_buy w_X12_isGone := goodIn_sub (fun _ h => List.mem_cons_of_mem _ (List.mem_append_right _ (List.mem_append_right _ (List.mem_append_right _ (List.mem_append_left _ h))))) (by decide +kernel)
theorem gg_X12_buy_X12_in : GoodIn w_X12_buy w_X12_in := goodIn_sub (fun _ h => List.mem_cons_of_mem _ (List.mem_append_right _ (List.mem_append_right _ (List.mem_append_right _ (List.mem_append_right _ (List.mem_append_left _ h)))))) (by decide +kernel)
theorem gg_X12_buy_X12_of : GoodIn w_X12_buy w_X12_of := goodIn_sub (fun _ h => List.mem_cons_of_mem _ (List.mem_append_right _ (List.mem_append_right _ (List.mem_append_right _ (List.mem_append_right _ (List.mem_append_right _ (List.mem_append_left _ h))))))) (by decide +kernel)
theorem gg_X12_buy_X12_tell : GoodIn w_X12_buy w_X12_tell := goodIn_sub (fun _ h => List.mem_cons_of_mem _ (List.mem_append_right _ (List.mem_append_right _ (List.mem_append_right _ (List.mem_append_right _ (List.mem_append_right _ (List.mem_append_right _ (List.mem_append_left _ h)))))))) (by decide +kernel)
theorem g_X12_buy_X12_in_232 : GoodIn w_X12_buy (va_wsS RX12 232 yX12_in w_X12_in) := goodIn_app (goodIn_of _ (by decide +kernel)) gg_X12_buy_X12_in
theorem g_X12_buy_X12_isFamily_347 : GoodIn w_X12_buy (wsV RX12 347 RX12 yX12_isFamily w_X12_isFamily) := goodIn_app (goodIn_of _ (by decide +kernel)) gg_X12_buy_X12_isFamily
theorem g_X12_buy_X12_isGone_341 : GoodIn w_X12_buy (wsV RX12 341 RX12 yX12_isGone w_X12_isGone) := goodIn_app (goodIn_of _ (by decide +kernel)) gg_X12_buy_X12_isGone
theorem g_X12_buy_X12_of_287 : GoodIn w_X12_buy (wsV RX12 287 RX12 yX12_of w_X12_of) := goodIn_app (goodIn_of _ (by decide +kernel)) gg_X12_buy_X12_of
theorem g_X12_buy_X12_tell_305 : GoodIn w_X12_buy (wsV RX12 305 RX12 yX12_tell w_X12_tell) := goodIn_app (goodIn_of _ (by decide +kernel)) gg_X12_buy_X12_tell
set_option maxHeartbeats 4000000 in
set_option maxRecDepth 100000 in
theorem c_X12_buy (l : Launch) (E : py_E) (G : wf_G) (L : List Nat) (f : py_F) (sz : Nat) (u : Nat) (a : Int32) (b : Int32) (hG : GT G) (hWF : WF E G L f) (Tu : G.1 u = 13) : Met l yX12_buy w_X12_buy ({ frames := 2, cells := 0, slots := 0, locals := 43 }) (py_Pc E [.ref u, .int a, .int b] L f sz) (py_Qi E L f sz (fun _ L1 f1 => WF E G L1 f1 ∧ KP G [55, 63, 64, 65, 13] false f f1 ∧ FK [43] f f1 u)) 0 0 (va_A (va_pl L f) sz) := by
  refine Met.ofW (cc := cX12_buy) (maxL := 4) (ret := (some .int)) (by decide) rfl ?_
  intro p e s m args below meth c s₁ B hml hv
  obtain ⟨rfl, rfl, hw⟩ := py_start hv
  have G0 : CallFix p m c cX12_buy 4 s _ w_X12_buy RX12 := ⟨B.exec, B.bytes, hml, findClass_of_methodNamed B.named, atoms_spec (ws := w_X12_buy) B.pre⟩
  have hr := B.returns
  have hlk := B.notSynchronized
  have kcm3 : (-3 : Int32).toInt = -3 := rfl
  have kcm1 : (-1 : Int32).toInt = -1 := rfl
  have kc0 : (0 : Int32).toInt = 0 := rfl
  have kc1 : (1 : Int32).toInt = 1 := rfl
  have kc3 : (3 : Int32).toInt = 3 := rfl
  have kc6 : (6 : Int32).toInt = 6 := rfl
  have kc8 : (8 : Int32).toInt = 8 := rfl
  have kc40 : (40 : Int32).toInt = 40 := rfl
  have hl := lv_entry ([.ref u, .int a, .int b]) (n := 4) (Nat.le_of_ble_eq_true rfl)
  rw [lg_entry_eq]
  generalize (lg_sl ([.ref u, .int a, .int b]) ++ List.replicate (4 - (lg_sl ([.ref u, .int a, .int b])).length) Slot.unset).toArray = ls at hl ⊢
  have hl : lv_has ls 4 [(0, .ref u), (1, .int a), (2, .int b)] := hl
  have hFK : FK [43] f f u := FK.refl
  have hKP : KP G [55, 63, 64, 65, 13] false f f := KP.refl
  refine lv_aload_n G0.1 G0.2.1 dX12_buy_0 rfl (lv_at hl 0 rfl) ?_
  refine lv_iload_n G0.1 G0.2.1 dX12_buy_1 rfl (lv_at hl 1 rfl) ?_
  obtain ⟨v_1, v_2, v_3, v_4, v_5, v_6, v_7, v_8, v_9, v_10, v_11, v_12, y_13, v_14, v_15, v_16, v_17, v_18, y_19, v_20, y_21, v_22, hr_35, b_23, b_24, b_25, b_26, b_27, b_28, b_29, b_30, b_31, b_32, b_33, b_34⟩ := wg_12 hWF Tu
  refine py_calli hw (va_runV (As := [.int a]) (rest := []) G0 (c_X12_isFamily l E G L f s.heap.size u a hG hWF Tu) (cwV 1 G0.2.2.2.2 g_X12_buy_X12_isFamily_347 rfl rfl rfl (by decide +kernel) ⟨(Nat.le_of_ble_eq_true rfl), (Nat.le_of_ble_eq_true rfl)⟩) (py_preV hw (C := RX12) (T := TX12) (N := 54) rfl hr_35) rfl rfl hl.1 rfl (lv_room (Nat.le_of_ble_eq_true rfl)) dX12_buy_2 ⟨(Nat.le_of_ble_eq_true rfl), (Nat.le_of_ble_eq_true rfl)⟩) (fun r_40 L_36 f_37 H_38 locs hp_39 hw => ?_)
  obtain ⟨b_42, en_41, rfl, rfl⟩ := hp_39
  refine lv_if_eq (tgt := 57) G0.1 G0.2.1 dX12_buy_5 (by decide) (fun c_43 => ?_) (fun c_43 => ?_)
  · skip
    have tc_43 := ti_eq c_43
    clear en_41
    refine lv_iconst (v := (-1)) G0.1 G0.2.1 dX12_buy_57 (by decide) ?_
    exact py_iret G0 hr rfl hlk hw ⟨hWF, hKP, hFK⟩ dX12_buy_58
  · skip
    have tc_43 := ti_ne c_43
    replace en_41 := en_41 (by omega)
    refine lv_aload_n G0.1 G0.2.1 dX12_buy_8 rfl (lv_at hl 0 rfl) ?_
    refine lv_iload_n G0.1 G0.2.1 dX12_buy_9 rfl (lv_at hl 1 rfl) ?_
    refine py_calli hw (va_runV (As := [.int a]) (rest := []) G0 (c_X12_isGone l E G L f H_38.size u a hG hWF Tu ⟨by omega, by omega⟩) (cwV 1 G0.2.2.2.2 g_X12_buy_X12_isGone_341 rfl rfl rfl (by decide +kernel) ⟨(Nat.le_of_ble_eq_true rfl), (Nat.le_of_ble_eq_true rfl)⟩) (py_preV hw (C := RX12) (T := TX12) (N := 54) rfl hr_35) rfl rfl hl.1 rfl (lv_room (Nat.le_of_ble_eq_true rfl)) dX12_buy_10 ⟨(Nat.le_of_ble_eq_true rfl), (Nat.le_of_ble_eq_true rfl)⟩) (fun r_48 L_44 f_45 H_46 locs hp_47 hw => ?_)
    obtain ⟨b_51, en_49, en_50, rfl, rfl⟩ := hp_47
    refine lv_if_ne (tgt := 57) G0.1 G0.2.1 dX12_buy_13 (by decide) (fun c_52 => ?_) (fun c_52 => ?_)
    · skip
      have tc_52 := ti_ne c_52
      replace en_49 := en_49 (by omega)
      clear en_50
      refine lv_iconst (v := (-1)) G0.1 G0.2.1 dX12_buy_57 (by decide) ?_
      exact py_iret G0 hr rfl hlk hw ⟨hWF, hKP, hFK⟩ dX12_buy_58
    · skip
      have tc_52 := ti_eq c_52
      clear en_49
      replace en_50 := en_50 (by omega)
      refine lv_iload_n G0.1 G0.2.1 dX12_buy_16 rfl (lv_at hl 2 rfl) ?_
      refine lv_bipush (v := (-3)) G0.1 G0.2.1 dX12_buy_17 (by decide) ?_
      refine lv_iconst (v := 3) G0.1 G0.2.1 dX12_buy_19 (by decide) ?_
      refine py_calli hw (va_runS (As := [.int b, .int (-3), .int 3]) (rest := []) G0 (c_X12_in l E G L f H_46.size b (-3) 3 hG hWF) (va_cwS 3 G0.2.2.2.2 g_X12_buy_X12_in_232 rfl rfl rfl (by decide +kernel) ⟨(Nat.le_of_ble_eq_true rfl), (Nat.le_of_ble_eq_true rfl)⟩) (py_preS hw) rfl rfl hl.1 rfl (lv_room (Nat.le_of_ble_eq_true rfl)) dX12_buy_20 ⟨(Nat.le_of_ble_eq_true rfl), (Nat.le_of_ble_eq_true rfl)⟩) (fun r_57 L_53 f_54 H_55 locs hp_56 hw => ?_)
      obtain ⟨b_60, en_58, en_59, rfl, rfl⟩ := hp_56
      have en_58 : r_57.toInt ≠ 0 → ((-3) : Int) ≤ b.toInt ∧ b.toInt ≤ (3 : Int) := en_58
      have en_59 : r_57.toInt = 0 → b.toInt < ((-3) : Int) ∨ (3 : Int) < b.toInt := en_59
      refine lv_if_eq (tgt := 57) G0.1 G0.2.1 dX12_buy_23 (by decide) (fun c_61 => ?_) (fun c_61 => ?_)
      · skip
        have tc_61 := ti_eq c_61
        clear en_58
        replace en_59 := en_59 (by omega)
        refine lv_iconst (v := (-1)) G0.1 G0.2.1 dX12_buy_57 (by decide) ?_
        exact py_iret G0 hr rfl hlk hw ⟨hWF, hKP, hFK⟩ dX12_buy_58
      · skip
        have tc_61 := ti_ne c_61
        replace en_58 := en_58 (by omega)
        clear en_59
        refine lv_iload_n G0.1 G0.2.1 dX12_buy_26 rfl (lv_at hl 2 rfl) ?_
        refine lv_if_eq (tgt := 57) G0.1 G0.2.1 dX12_buy_27 (by decide) (fun c_62 => ?_) (fun c_62 => ?_)
        · skip
          have tc_62 := ti_eq c_62
          refine lv_iconst (v := (-1)) G0.1 G0.2.1 dX12_buy_57 (by decide) ?_
          exact py_iret G0 hr rfl hlk hw ⟨hWF, hKP, hFK⟩ dX12_buy_58
        · skip
          have tc_62 := ti_ne c_62
          refine lv_aload_n G0.1 G0.2.1 dX12_buy_30 rfl (lv_at hl 0 rfl) ?_
          refine lv_iload_n G0.1 G0.2.1 dX12_buy_31 rfl (lv_at hl 1 rfl) ?_
          refine lv_bipush (v := 6) G0.1 G0.2.1 dX12_buy_32 (by decide) ?_
          refine py_calli hw (va_runV (As := [.int a, .int 6]) (rest := []) G0 (c_X12_of l E G L f H_55.size u a 6 hG hWF Tu ⟨by omega, by omega⟩ ⟨by omega, by omega⟩) (cwV 2 G0.2.2.2.2 g_X12_buy_X12_of_287 rfl rfl rfl (by decide +kernel) ⟨(Nat.le_of_ble_eq_true rfl), (Nat.le_of_ble_eq_true rfl)⟩) (py_preV hw (C := RX12) (T := TX12) (N := 54) rfl hr_35) rfl rfl hl.1 rfl (lv_room (Nat.le_of_ble_eq_true rfl)) dX12_buy_34 ⟨(Nat.le_of_ble_eq_true rfl), (Nat.le_of_ble_eq_true rfl)⟩) (fun r_67 L_63 f_64 H_65 locs hp_66 hw => ?_)
          obtain ⟨en_68, en_69, rfl, rfl⟩ := hp_66
          have en_68 : r_67.toInt = nw f G u a.toInt (6 : Int) := en_68
          have en_69 : ((6 : Int) = 0 → 0 ≤ r_67.toInt ∧ r_67.toInt ≤ 20) ∧ ((6 : Int) = 1 → -1 ≤ r_67.toInt ∧ r_67.toInt ≤ 7) := en_69
          have br_67 := wf_free r_67
          refine lv_iload_n G0.1 G0.2.1 dX12_buy_37 rfl (lv_at hl 2 rfl) ?_
          refine lv_iadd G0.1 G0.2.1 dX12_buy_38 ?_
          refine lv_topi (fun x_70 ex_70 => ?_)
          first | have tx_70 := ti_add ex_70 (by omega -splitDisjunctions) (by omega -splitDisjunctions) | skip
          refine lv_bipush (v := (-3)) G0.1 G0.2.1 dX12_buy_39 (by decide) ?_
          refine lv_iconst (v := 3) G0.1 G0.2.1 dX12_buy_41 (by decide) ?_
          refine py_calli hw (va_runS (As := [.int x_70, .int (-3), .int 3]) (rest := []) G0 (c_X12_in l E G L f H_65.size x_70 (-3) 3 hG hWF) (va_cwS 3 G0.2.2.2.2 g_X12_buy_X12_in_232 rfl rfl rfl (by decide +kernel) ⟨(Nat.le_of_ble_eq_true rfl), (Nat.le_of_ble_eq_true rfl)⟩) (py_preS hw) rfl rfl hl.1 rfl (lv_room (Nat.le_of_ble_eq_true rfl)) dX12_buy_42 ⟨(Nat.le_of_ble_eq_true rfl), (Nat.le_of_ble_eq_true rfl)⟩) (fun r_75 L_71 f_72 H_73 locs hp_74 hw => ?_)
          obtain ⟨b_78, en_76, en_77, rfl, rfl⟩ := hp_74
          have en_76 : r_75.toInt ≠ 0 → ((-3) : Int) ≤ x_70.toInt ∧ x_70.toInt ≤ (3 : Int) := en_76
          have en_77 : r_75.toInt = 0 → x_70.toInt < ((-3) : Int) ∨ (3 : Int) < x_70.toInt := en_77
          refine lv_if_eq (tgt := 57) G0.1 G0.2.1 dX12_buy_45 (by decide) (fun c_79 => ?_) (fun c_79 => ?_)
          · skip
            have tc_79 := ti_eq c_79
            clear en_76
            replace en_77 := en_77 (by omega)
            refine lv_iconst (v := (-1)) G0.1 G0.2.1 dX12_buy_57 (by decide) ?_
            exact py_iret G0 hr rfl hlk hw ⟨hWF, hKP, hFK⟩ dX12_buy_58
          · skip
            have tc_79 := ti_ne c_79
            replace en_76 := en_76 (by omega)
            clear en_77
            refine lv_aload_n G0.1 G0.2.1 dX12_buy_48 rfl (lv_at hl 0 rfl) ?_
            refine py_get (C := RX12) (T := TX12) (N := 54) (k := 43) (v := .int v_18) G0 hw in_X12_buy_X12 rfl hr_35 (by decide) (by decide +kernel) rfl dX12_buy_49 ?_
            refine lv_bipush (v := 40) G0.1 G0.2.1 dX12_buy_52 (by decide) ?_
            refine lv_icmp_ne (tgt := 59) G0.1 G0.2.1 dX12_buy_54 (by decide) (fun c_80 => ?_) (fun c_80 => ?_)
            · skip
              have tc_80 := ti_ne c_80
              refine lv_aload_n G0.1 G0.2.1 dX12_buy_59 rfl (lv_at hl 0 rfl) ?_
              refine py_get (C := RX12) (T := TX12) (N := 54) (k := 34) (v := .int v_17) G0 hw in_X12_buy_X12 rfl hr_35 (by decide) (by decide +kernel) rfl dX12_buy_60 ?_
              refine lv_iload_n G0.1 G0.2.1 dX12_buy_63 rfl (lv_at hl 2 rfl) ?_
              refine va_mabs G0.1 G0.2.1 (by rw [G0.2.2.1, hl.1]) G0.2.2.2.1 (G0.2.2.2.2 (Cond.methodLink RX12 411 Lib.Math.abs.name) (by decide +kernel)) (G0.2.2.2.2 (Cond.static Lib.Math.abs.name) (by decide +kernel)) (G0.2.2.2.2 (Cond.initialized "java/lang/Math") (by decide +kernel)) (G0.2.2.2.2 (Cond.code Lib.Math.abs.name Lib.Math.abs.code 1 (some .int)) (by decide +kernel)) (Nat.le_of_ble_eq_true rfl) (Nat.le_of_ble_eq_true rfl) (Nat.le_of_ble_eq_true rfl) (Nat.le_of_ble_eq_true rfl) dX12_buy_64 ?_
              refine lv_topi (fun x_81 ex_81 => ?_)
              refine lv_imul G0.1 G0.2.1 dX12_buy_67 ?_
              refine lv_topi (fun x_82 ex_82 => ?_)
              refine lv_istore_n (lv' := [(3, .int x_82), (0, .ref u), (1, .int a), (2, .int b)]) G0.1 G0.2.1 dX12_buy_68 rfl hl (by decide) rfl (fun ls hl => ?_)
              refine lv_aload_n G0.1 G0.2.1 dX12_buy_69 rfl (lv_at hl 1 rfl) ?_
              refine lv_iload_n G0.1 G0.2.1 dX12_buy_70 rfl (lv_at hl 2 rfl) ?_
              refine lv_bipush (v := 6) G0.1 G0.2.1 dX12_buy_71 (by decide) ?_
              refine lv_aload_n G0.1 G0.2.1 dX12_buy_73 rfl (lv_at hl 1 rfl) ?_
              refine lv_iload_n G0.1 G0.2.1 dX12_buy_74 rfl (lv_at hl 2 rfl) ?_
              refine lv_bipush (v := 6) G0.1 G0.2.1 dX12_buy_75 (by decide) ?_
              refine py_calli hw (va_runV (As := [.int a, .int 6]) (rest := [.int 6, .int a, .ref u]) G0 (c_X12_of l E G L f H_73.size u a 6 hG hWF Tu ⟨by omega, by omega⟩ ⟨by omega, by omega⟩) (cwV 2 G0.2.2.2.2 g_X12_buy_X12_of_287 rfl rfl rfl (by decide +kernel) ⟨(Nat.le_of_ble_eq_true rfl), (Nat.le_of_ble_eq_true rfl)⟩) (py_preV hw (C := RX12) (T := TX12) (N := 54) rfl hr_35) rfl rfl hl.1 rfl (lv_room (Nat.le_of_ble_eq_true rfl)) dX12_buy_77 ⟨(Nat.le_of_ble_eq_true rfl), (Nat.le_of_ble_eq_true rfl)⟩) (fun r_87 L_83 f_84 H_85 locs hp_86 hw => ?_)
              obtain ⟨en_88, en_89, rfl, rfl⟩ := hp_86
              have en_88 : r_87.toInt = nw f G u a.toInt (6 : Int) := en_88
              have en_89 : ((6 : Int) = 0 → 0 ≤ r_87.toInt ∧ r_87.toInt ≤ 20) ∧ ((6 : Int) = 1 → -1 ≤ r_87.toInt ∧ r_87.toInt ≤ 7) := en_89
              have br_87 := wf_free r_87
              refine lv_iload_n G0.1 G0.2.1 dX12_buy_80 rfl (lv_at hl 3 rfl) ?_
              refine lv_iadd G0.1 G0.2.1 dX12_buy_81 ?_
              refine lv_topi (fun x_90 ex_90 => ?_)
              first | have tx_90 := ti_add ex_90 (by omega -splitDisjunctions) (by omega -splitDisjunctions) | skip
              refine py_callv hw (va_runV (As := [.int a, .int 6, .int x_90]) (rest := []) G0 (c_X12_tell l E G L f H_85.size u a 6 x_90 hG hWF Tu ⟨by omega, by omega⟩ ⟨by omega, by omega⟩ (show ((6 : Int32).toInt = 0 → 0 ≤ x_90.toInt ∧ x_90.toInt ≤ 20) ∧ ((6 : Int32).toInt = 1 → -1 ≤ x_90.toInt ∧ x_90.toInt ≤ 7) by omega)) (cwV 3 G0.2.2.2.2 g_X12_buy_X12_tell_305 rfl rfl rfl (by decide +kernel) ⟨(Nat.le_of_ble_eq_true rfl), (Nat.le_of_ble_eq_true rfl)⟩) (py_preV hw (C := RX12) (T := TX12) (N := 54) rfl hr_35) rfl rfl hl.1 rfl (lv_room (Nat.le_of_ble_eq_true rfl)) dX12_buy_82 ⟨(Nat.le_of_ble_eq_true rfl), (Nat.le_of_ble_eq_true rfl)⟩) (fun L_91 f_92 H_93 locs hp_94 hw => ?_)
              obtain ⟨en_96, hWF, kp_97, fk_98⟩ := hp_94
              have en_96 : TL f f_92 G u a.toInt (6 : Int) x_90.toInt := en_96
              have hFK := hFK.trans fk_98 (by decide)
              have hKP := hKP.trans kp_97 (by decide) (by decide)
              have hr_35 := kp_at kp_97 hWF Tu (by decide) (by decide) (by decide) hr_35
              refine lv_aload_n G0.1 G0.2.1 dX12_buy_85 rfl (lv_at hl 1 rfl) ?_
              refine lv_iload_n G0.1 G0.2.1 dX12_buy_86 rfl (lv_at hl 2 rfl) ?_
              refine lv_bipush (v := 8) G0.1 G0.2.1 dX12_buy_87 (by decide) ?_
              refine lv_aload_n G0.1 G0.2.1 dX12_buy_89 rfl (lv_at hl 1 rfl) ?_
              refine lv_iload_n G0.1 G0.2.1 dX12_buy_90 rfl (lv_at hl 2 rfl) ?_
              refine lv_bipush (v := 8) G0.1 G0.2.1 dX12_buy_91 (by decide) ?_
              refine py_calli hw (va_runV (As := [.int a, .int 8]) (rest := [.int 8, .int a, .ref u]) G0 (c_X12_of l E G L_91 f_92 H_93.size u a 8 hG hWF Tu ⟨by omega, by omega⟩ ⟨by omega, by omega⟩) (cwV 2 G0.2.2.2.2 g_X12_buy_X12_of_287 rfl rfl rfl (by decide +kernel) ⟨(Nat.le_of_ble_eq_true rfl), (Nat.le_of_ble_eq_true rfl)⟩) (py_preV hw (C := RX12) (T := TX12) (N := 54) rfl hr_35) rfl rfl hl.1 rfl (lv_room (Nat.le_of_ble_eq_true rfl)) dX12_buy_93 ⟨(Nat.le_of_ble_eq_true rfl), (Nat.le_of_ble_eq_true rfl)⟩) (fun r_103 L_99 f_100 H_101 locs hp_102 hw => ?_)
              obtain ⟨en_104, en_105, rfl, rfl⟩ := hp_102
              have en_104 : r_103.toInt = nw f_92 G u a.toInt (8 : Int) := en_104
              have en_105 : ((8 : Int) = 0 → 0 ≤ r_103.toInt ∧ r_103.toInt ≤ 20) ∧ ((8 : Int) = 1 → -1 ≤ r_103.toInt ∧ r_103.toInt ≤ 7) := en_105
              have br_103 := wf_free r_103
              refine lv_iload_n G0.1 G0.2.1 dX12_buy_96 rfl (lv_at hl 0 rfl) ?_
              refine lv_iadd G0.1 G0.2.1 dX12_buy_97 ?_
              refine lv_topi (fun x_106 ex_106 => ?_)
              first | have tx_106 := ti_add ex_106 (by omega -splitDisjunctions) (by omega -splitDisjunctions) | skip
              refine py_callv hw (va_runV (As := [.int a, .int 8, .int x_106]) (rest := []) G0 (c_X12_tell l E G L_91 f_92 H_101.size u a 8 x_106 hG hWF Tu ⟨by omega, by omega⟩ ⟨by omega, by omega⟩ (show ((8 : Int32).toInt = 0 → 0 ≤ x_106.toInt ∧ x_106.toInt ≤ 20) ∧ ((8 : Int32).toInt = 1 → -1 ≤ x_106.toInt ∧ x_106.toInt ≤ 7) by omega)) (cwV 3 G0.2.2.2.2 g_X12_buy_X12_tell_305 rfl rfl rfl (by decide +kernel) ⟨(Nat.le_of_ble_eq_true rfl), (Nat.le_of_ble_eq_true rfl)⟩) (py_preV hw (C := RX12) (T := TX12) (N := 54) rfl hr_35) rfl rfl hl.1 rfl (lv_room (Nat.le_of_ble_eq_true rfl)) dX12_buy_98 ⟨(Nat.le_of_ble_eq_true rfl), (Nat.le_of_ble_eq_true rfl)⟩) (fun L_107 f_108 H_109 locs hp_110 hw => ?_)
              obtain ⟨en_112, hWF, kp_113, fk_114⟩ := hp_110
              have en_112 : TL f_92 f_108 G u a.toInt (8 : Int) x_106.toInt := en_112
              have hFK := hFK.trans fk_114 (by decide)
              have hKP := hKP.trans kp_113 (by decide) (by decide)
              have hr_35 := kp_at kp_113 hWF Tu (by decide) (by decide) (by decide) hr_35
              refine lv_aload_n G0.1 G0.2.1 dX12_buy_101 rfl (lv_at hl 1 rfl) ?_
              refine py_get (C := RX12) (T := TX12) (N := 54) (k := 40) (v := .ref (G.2 u 40)) G0 hw in_X12_buy_X12 rfl hr_35 (by decide) (by decide +kernel) rfl dX12_buy_102 ?_
              refine lv_aload_n G0.1 G0.2.1 dX12_buy_105 rfl (lv_at hl 1 rfl) ?_
              refine py_get (C := RX12) (T := TX12) (N := 54) (k := 43) (v := .int v_18) G0 hw in_X12_buy_X12 rfl hr_35 (by decide) (by decide +kernel) rfl dX12_buy_106 ?_
              refine lv_iload_n G0.1 G0.2.1 dX12_buy_109 rfl (lv_at hl 2 rfl) ?_
              obtain ⟨g_115, ha_116, hi_117⟩ := wf_arr (n := 40) (lo := 0) (hi := 9) hWF (wt12_40 hG Tu) (by decide) (fun _ => rfl)
              have rg_118 : vp_in v_18 40 := ti_in (by omega) (by omega)
              refine py_iast G0 hw ha_116 rg_118 dX12_buy_110 (fun f_119 H_120 locs h_121 x_122 hw => ?_)
              have hFK := hFK.same ((x_122 _ (hWF _ (by rw [Tu]; decide)).1 (wf_ne Tu (wt12_40 hG Tu) (by decide))).2)
              have hKP := hKP.upd hWF x_122 (wt12_40 hG Tu) (Or.inl (by decide))
              have hi_123 := wf_inu (k := (v_18 : Int32).toNatClampNeg) (x := a) hi_117 (by omega) (by omega)
              have hWF := wf_upd hWF h_121 x_122 (by rw [(wt12_40 hG Tu)]; exact ⟨_, rfl, hi_123⟩)
              have hr_35 := hr_35.ext x_122 (py_ne_arr hr_35 ha_116)
              refine lv_aload_n G0.1 G0.2.1 dX12_buy_111 rfl (lv_at hl 1 rfl) ?_
              refine py_get (C := RX12) (T := TX12) (N := 54) (k := 41) (v := .ref (G.2 u 41)) G0 hw in_X12_buy_X12 rfl hr_35 (by decide) (by decide +kernel) rfl dX12_buy_112 ?_
              refine lv_aload_n G0.1 G0.2.1 dX12_buy_115 rfl (lv_at hl 1 rfl) ?_
              refine py_get (C := RX12) (T := TX12) (N := 54) (k := 43) (v := .int v_18) G0 hw in_X12_buy_X12 rfl hr_35 (by decide) (by decide +kernel) rfl dX12_buy_116 ?_
              refine lv_iload_n G0.1 G0.2.1 dX12_buy_119 rfl (lv_at hl 3 rfl) ?_
              obtain ⟨g_124, ha_125, hi_126⟩ := wf_arr (n := 40) (lo := (-2147483648)) (hi := 2147483647) hWF (wt12_41 hG Tu) (by decide) (fun _ => rfl)
              have rg_127 : vp_in v_18 40 := ti_in (by omega) (by omega)
              refine py_iast G0 hw ha_125 rg_127 dX12_buy_120 (fun f_128 H_129 locs h_130 x_131 hw => ?_)
              have hFK := hFK.same ((x_131 _ (hWF _ (by rw [Tu]; decide)).1 (wf_ne Tu (wt12_41 hG Tu) (by decide))).2)
              have hKP := hKP.upd hWF x_131 (wt12_41 hG Tu) (Or.inl (by decide))
              have hi_132 := wf_inu (k := (v_18 : Int32).toNatClampNeg) (x := b) hi_126 (wf_free b).1 (wf_free b).2
              have hWF := wf_upd hWF h_130 x_131 (by rw [(wt12_41 hG Tu)]; exact ⟨_, rfl, hi_132⟩)
              have hr_35 := hr_35.ext x_131 (py_ne_arr hr_35 ha_125)
              have h_121 := h_121.ext x_131 (wf_ne (wt12_40 hG Tu) (wt12_41 hG Tu) (by decide))
              refine lv_aload_n G0.1 G0.2.1 dX12_buy_121 rfl (lv_at hl 1 rfl) ?_
              refine py_get (C := RX12) (T := TX12) (N := 54) (k := 42) (v := .ref (G.2 u 42)) G0 hw in_X12_buy_X12 rfl hr_35 (by decide) (by decide +kernel) rfl dX12_buy_122 ?_
              refine lv_aload_n G0.1 G0.2.1 dX12_buy_125 rfl (lv_at hl 1 rfl) ?_
              refine py_get (C := RX12) (T := TX12) (N := 54) (k := 43) (v := .int v_18) G0 hw in_X12_buy_X12 rfl hr_35 (by decide) (by decide +kernel) rfl dX12_buy_126 ?_
              refine lv_iload_n G0.1 G0.2.1 dX12_buy_129 rfl (lv_at hl 0 rfl) ?_
              obtain ⟨g_133, ha_134, hi_135⟩ := wf_arr (n := 40) (lo := (-2147483648)) (hi := 2147483647) hWF (wt12_42 hG Tu) (by decide) (fun _ => rfl)
              have rg_136 : vp_in v_18 40 := ti_in (by omega) (by omega)
              refine py_iast G0 hw ha_134 rg_136 dX12_buy_130 (fun f_137 H_138 locs h_139 x_140 hw => ?_)
              have hFK := hFK.same ((x_140 _ (hWF _ (by rw [Tu]; decide)).1 (wf_ne Tu (wt12_42 hG Tu) (by decide))).2)
              have hKP := hKP.upd hWF x_140 (wt12_42 hG Tu) (Or.inl (by decide))
              have hi_141 := wf_inu (k := (v_18 : Int32).toNatClampNeg) (x := x_82) hi_135 (wf_free x_82).1 (wf_free x_82).2
              have hWF := wf_upd hWF h_139 x_140 (by rw [(wt12_42 hG Tu)]; exact ⟨_, rfl, hi_141⟩)
              have hr_35 := hr_35.ext x_140 (py_ne_arr hr_35 ha_134)
              have h_130 := h_130.ext x_140 (wf_ne (wt12_41 hG Tu) (wt12_42 hG Tu) (by decide))
              have h_121 := h_121.ext x_140 (wf_ne (wt12_40 hG Tu) (wt12_42 hG Tu) (by decide))
              refine lv_aload_n G0.1 G0.2.1 dX12_buy_131 rfl (lv_at hl 1 rfl) ?_
              refine lv_dup G0.1 G0.2.1 dX12_buy_132 rfl ?_
              refine py_get (C := RX12) (T := TX12) (N := 54) (k := 43) (v := .int v_18) G0 hw in_X12_buy_X12 rfl hr_35 (by decide) (by decide +kernel) rfl dX12_buy_133 ?_
              refine lv_iconst (v := 1) G0.1 G0.2.1 dX12_buy_136 (by decide) ?_
              refine lv_iadd G0.1 G0.2.1 dX12_buy_137 ?_
              refine lv_topi (fun x_142 ex_142 => ?_)
              first | have tx_142 := ti_add ex_142 (by omega -splitDisjunctions) (by omega -splitDisjunctions) | skip
              refine py_put (C := RX12) (T := TX12) (N := 54) (k := 43) (v := .int x_142) (fs' := [.int v_1, .ref (G.2 u 1), .int v_2, .int v_3, .int v_4, .int v_5, .ref (G.2 u 6), .ref (G.2 u 7), .ref (G.2 u 8), .ref (G.2 u 9), .ref (G.2 u 10), .ref (G.2 u 11), .ref (G.2 u 12), .int v_6, .int v_7, .ref (G.2 u 15), .ref (G.2 u 16), .ref (G.2 u 17), .ref (G.2 u 18), .int v_8, .int v_9, .ref (G.2 u 21), .ref (G.2 u 22), .ref (G.2 u 23), .int v_10, .int v_11, .ref (G.2 u 26), .ref (G.2 u 27), .ref (G.2 u 28), .int v_12, .long y_13, .int v_14, .int v_15, .int v_16, .int v_17, .ref (G.2 u 35), .ref (G.2 u 36), .ref (G.2 u 37), .ref (G.2 u 38), .ref (G.2 u 39), .ref (G.2 u 40), .ref (G.2 u 41), .ref (G.2 u 42), .int x_142, .ref (G.2 u 44), .ref (G.2 u 45), .ref (G.2 u 46), .ref (G.2 u 47), .long y_19, .ref (G.2 u 49), .ref (G.2 u 50), .int v_20, .long y_21, .int v_22]) (ty0 := tyX12) G0 hw tyX12_ok nmX12 in_X12_buy_X12 rfl hr_35 (by decide) (by decide +kernel) rfl rfl rfl rfl (Nat.le_of_ble_eq_true rfl) rfl dX12_buy_138 (fun f_143 H_144 locs h_145 x_146 hw => ?_)
              have hFK := hFK.put hr_35 h_145 43 (by decide) rfl
              have hKP := hKP.upd hWF x_146 Tu (Or.inl (by decide))
              have hWF := wf_upd hWF h_145 x_146 (by rw [Tu]; exact ⟨v_1, v_2, v_3, v_4, v_5, v_6, v_7, v_8, v_9, v_10, v_11, v_12, y_13, v_14, v_15, v_16, v_17, x_142, y_19, v_20, y_21, v_22, rfl, ⟨by omega, by omega⟩, ⟨by omega, by omega⟩, ⟨by omega, by omega⟩, ⟨by omega, by omega⟩, ⟨by omega, by omega⟩, ⟨by omega, by omega⟩, ⟨by omega, by omega⟩, ⟨by omega, by omega⟩, ⟨by omega, by omega⟩, ⟨by omega, by omega⟩, ⟨by omega, by omega⟩, ⟨by omega, by omega⟩⟩)
              have h_139 := h_139.ext x_146 (Ne.symm (py_ne_arr hr_35 h_139))
              have h_130 := h_130.ext x_146 (Ne.symm (py_ne_arr hr_35 h_130))
              have h_121 := h_121.ext x_146 (Ne.symm (py_ne_arr hr_35 h_121))
              refine lv_iload_n G0.1 G0.2.1 dX12_buy_141 rfl (lv_at hl 0 rfl) ?_
              exact py_iret G0 hr rfl hlk hw ⟨hWF, hKP, hFK⟩ dX12_buy_142
            · skip
              have tc_80 := ti_eq c_80
              refine lv_iconst (v := (-1)) G0.1 G0.2.1 dX12_buy_57 (by decide) ?_
              exact py_iret G0 hr rfl hlk hw ⟨hWF, hKP, hFK⟩ dX12_buy_58

def w_X12_undo : List Cond := .code yX12_undo cX12_undo 2 (some .int) :: ([Cond.fieldLink RX12 312 "HeadYearModel" "buys" "I", Cond.fieldLink RX12 89 "HeadYearModel" "buyer" "[I", Cond.methodLink RX12 287 yX12_of, Cond.instanceMethod yX12_of, Cond.selects RX12 yX12_of yX12_of, Cond.initialized RX12, Cond.fieldLink RX12 92 "HeadYearModel" "buyBy" "[I", Cond.methodLink RX12 305 yX12_tell, Cond.instanceMethod yX12_tell, Cond.selects RX12 yX12_tell yX12_tell, Cond.fieldLink RX12 95 "HeadYearModel" "buyCost" "[I"] ++ (u_ws RX12 TX12 54 ++ (w_X12_of ++ (w_X12_tell ++ ([])))))
theorem in_X12_undo_X12 : ∀ w ∈ u_ws RX12 TX12 54, w ∈ w_X12_undo := fun _ h => List.mem_cons_of_mem _ (List.mem_append_right _ (List.mem_append_left _ h))
theorem gg_X12_undo_X12_of : GoodIn w_X12_undo w_X12_of := goodIn_sub (fun _ h => List.mem_cons_of_mem _ (List.mem_append_right _ (List.mem_append_right _ (List.mem_append_left _ h)))) (by decide +kernel)
theorem gg_X12_undo_X12_tell : GoodIn w_X12_undo w_X12_tell := goodIn_sub (fun _ h => List.mem_cons_of_mem _ (List.mem_append_right _ (List.mem_append_right _ (List.mem_append_right _ (List.mem_append_left _ h))))) (by decide +kernel)
theorem g_X12_undo_X12_of_287 : GoodIn w_X12_undo (wsV RX12 287 RX12 yX12_of w_X12_of) := goodIn_app (goodIn_of _ (by decide +kernel)) gg_X12_undo_X12_of
theorem g_X12_undo_X12_tell_305 : GoodIn w_X12_undo (wsV RX12 305 RX12 yX12_tell w_X12_tell) := goodIn_app (goodIn_of _ (by decide +kernel)) gg_X12_undo_X12_tell
set_option maxHeartbeats 4000000 in
set_option maxRecDepth 100000 in
theorem c_X12_undo (l : Launch) (E : py_E) (G : wf_G) (L : List Nat) (f : py_F) (sz : Nat) (u : Nat) (hG : GT G) (hWF : WF E G L f) (Tu : G.1 u = 13) : Met l yX12_undo w_X12_undo ({ frames := 1, cells := 0, slots := 0, locals := 23 }) (py_Pc E [.ref u] L f sz) (py_Qi E L f sz (fun _ L1 f1 => WF E G L1 f1 ∧ KP G [55, 13] false f f1 ∧ FK [43] f f1 u)) 0 0 (va_A (va_pl L f) sz) := by
  refine Met.ofW (cc := cX12_undo) (maxL := 2) (ret := (some .int)) (by decide) rfl ?_
  intro p e s m args below meth c s₁ B hml hv
  obtain ⟨rfl, rfl, hw⟩ := py_start hv
  have G0 : CallFix p m c cX12_undo 2 s _ w_X12_undo RX12 := ⟨B.exec, B.bytes, hml, findClass_of_methodNamed B.named, atoms_spec (ws := w_X12_undo) B.pre⟩
  have hr := B.returns
  have hlk := B.notSynchronized
  have kcm1 : (-1 : Int32).toInt = -1 := rfl
  have kc0 : (0 : Int32).toInt = 0 := rfl
  have kc1 : (1 : Int32).toInt = 1 := rfl
  have kc6 : (6 : Int32).toInt = 6 := rfl
  have kc8 : (8 : Int32).toInt = 8 := rfl
  have hl := lv_entry ([.ref u]) (n := 2) (Nat.le_of_ble_eq_true rfl)
  rw [lg_entry_eq]
  generalize (lg_sl ([.ref u]) ++ List.replicate (2 - (lg_sl ([.ref u])).length) Slot.unset).toArray = ls at hl ⊢
  have hl : lv_has ls 2 [(0, .ref u)] := hl
  have hFK : FK [43] f f u := FK.refl
  have hKP : KP G [55, 13] false f f := KP.refl
  refine lv_aload_n G0.1 G0.2.1 dX12_undo_0 rfl (lv_at hl 0 rfl) ?_
  obtain ⟨v_1, v_2, v_3, v_4, v_5, v_6, v_7, v_8, v_9, v_10, v_11, v_12, y_13, v_14, v_15, v_16, v_17, v_18, y_19, v_20, y_21, v_22, hr_35, b_23, b_24, b_25, b_26, b_27, b_28, b_29, b_30, b_31, b_32, b_33, b_34⟩ := wg_12 hWF Tu
  refine py_get (C := RX12) (T := TX12) (N := 54) (k := 43) (v := .int v_18) G0 hw in_X12_undo_X12 rfl hr_35 (by decide) (by decide +kernel) rfl dX12_undo_1 ?_
  refine lv_if_ne (tgt := 9) G0.1 G0.2.1 dX12_undo_4 (by decide) (fun c_36 => ?_) (fun c_36 => ?_)
  · skip
    have tc_36 := ti_ne c_36
    refine lv_aload_n G0.1 G0.2.1 dX12_undo_9 rfl (lv_at hl 0 rfl) ?_
    refine lv_dup G0.1 G0.2.1 dX12_undo_10 rfl ?_
    refine py_get (C := RX12) (T := TX12) (N := 54) (k := 43) (v := .int v_18) G0 hw in_X12_undo_X12 rfl hr_35 (by decide) (by decide +kernel) rfl dX12_undo_11 ?_
    refine lv_iconst (v := 1) G0.1 G0.2.1 dX12_undo_14 (by decide) ?_
    refine lv_isub G0.1 G0.2.1 dX12_undo_15 ?_
    refine lv_topi (fun x_37 ex_37 => ?_)
    first | have tx_37 := ti_sub ex_37 (by omega -splitDisjunctions) (by omega -splitDisjunctions) | skip
    refine py_put (C := RX12) (T := TX12) (N := 54) (k := 43) (v := .int x_37) (fs' := [.int v_1, .ref (G.2 u 1), .int v_2, .int v_3, .int v_4, .int v_5, .ref (G.2 u 6), .ref (G.2 u 7), .ref (G.2 u 8), .ref (G.2 u 9), .ref (G.2 u 10), .ref (G.2 u 11), .ref (G.2 u 12), .int v_6, .int v_7, .ref (G.2 u 15), .ref (G.2 u 16), .ref (G.2 u 17), .ref (G.2 u 18), .int v_8, .int v_9, .ref (G.2 u 21), .ref (G.2 u 22), .ref (G.2 u 23), .int v_10, .int v_11, .ref (G.2 u 26), .ref (G.2 u 27), .ref (G.2 u 28), .int v_12, .long y_13, .int v_14, .int v_15, .int v_16, .int v_17, .ref (G.2 u 35), .ref (G.2 u 36), .ref (G.2 u 37), .ref (G.2 u 38), .ref (G.2 u 39), .ref (G.2 u 40), .ref (G.2 u 41), .ref (G.2 u 42), .int x_37, .ref (G.2 u 44), .ref (G.2 u 45), .ref (G.2 u 46), .ref (G.2 u 47), .long y_19, .ref (G.2 u 49), .ref (G.2 u 50), .int v_20, .long y_21, .int v_22]) (ty0 := tyX12) G0 hw tyX12_ok nmX12 in_X12_undo_X12 rfl hr_35 (by decide) (by decide +kernel) rfl rfl rfl rfl (Nat.le_of_ble_eq_true rfl) rfl dX12_undo_16 (fun f_38 H_39 locs h_40 x_41 hw => ?_)
    have hFK := hFK.put hr_35 h_40 43 (by decide) rfl
    have hKP := hKP.upd hWF x_41 Tu (Or.inl (by decide))
    have hWF := wf_upd hWF h_40 x_41 (by rw [Tu]; exact ⟨v_1, v_2, v_3, v_4, v_5, v_6, v_7, v_8, v_9, v_10, v_11, v_12, y_13, v_14, v_15, v_16, v_17, x_37, y_19, v_20, y_21, v_22, rfl, ⟨by omega, by omega⟩, ⟨by omega, by omega⟩, ⟨by omega, by omega⟩, ⟨by omega, by omega⟩, ⟨by omega, by omega⟩, ⟨by omega, by omega⟩, ⟨by omega, by omega⟩, ⟨by omega, by omega⟩, ⟨by omega, by omega⟩, ⟨by omega, by omega⟩, ⟨by omega, by omega⟩, ⟨by omega, by omega⟩⟩)
    refine lv_aload_n G0.1 G0.2.1 dX12_undo_19 rfl (lv_at hl 0 rfl) ?_
    refine py_get (C := RX12) (T := TX12) (N := 54) (k := 40) (v := .ref (G.2 u 40)) G0 hw in_X12_undo_X12 rfl h_40 (by decide) (by decide +kernel) rfl dX12_undo_20 ?_
    refine lv_aload_n G0.1 G0.2.1 dX12_undo_23 rfl (lv_at hl 0 rfl) ?_
    refine py_get (C := RX12) (T := TX12) (N := 54) (k := 43) (v := .int x_37) G0 hw in_X12_undo_X12 rfl h_40 (by decide) (by decide +kernel) rfl dX12_undo_24 ?_
    obtain ⟨g_42, ha_43, hi_44⟩ := wf_arr (n := 40) (lo := 0) (hi := 9) hWF (wt12_40 hG Tu) (by decide) (fun _ => rfl)
    have rg_45 : vp_in x_37 40 := ti_in (by omega) (by omega)
    refine py_iald G0 hw ha_43 rg_45 dX12_undo_27 ?_
    refine lv_topi (fun x_46 ex_46 => ?_)
    have bx_46 := ti_at hi_44 rg_45 ex_46
    refine lv_istore_n (lv' := [(1, .int x_46), (0, .ref u)]) G0.1 G0.2.1 dX12_undo_28 rfl hl (by decide) rfl (fun ls hl => ?_)
    refine lv_aload_n G0.1 G0.2.1 dX12_undo_29 rfl (lv_at hl 1 rfl) ?_
    refine lv_iload_n G0.1 G0.2.1 dX12_undo_30 rfl (lv_at hl 0 rfl) ?_
    refine lv_bipush (v := 6) G0.1 G0.2.1 dX12_undo_31 (by decide) ?_
    refine lv_aload_n G0.1 G0.2.1 dX12_undo_33 rfl (lv_at hl 1 rfl) ?_
    refine lv_iload_n G0.1 G0.2.1 dX12_undo_34 rfl (lv_at hl 0 rfl) ?_
    refine lv_bipush (v := 6) G0.1 G0.2.1 dX12_undo_35 (by decide) ?_
    refine py_calli hw (va_runV (As := [.int x_46, .int 6]) (rest := [.int 6, .int x_46, .ref u]) G0 (c_X12_of l E G L f_38 H_39.size u x_46 6 hG hWF Tu ⟨by omega, by omega⟩ ⟨by omega, by omega⟩) (cwV 2 G0.2.2.2.2 g_X12_undo_X12_of_287 rfl rfl rfl (by decide +kernel) ⟨(Nat.le_of_ble_eq_true rfl), (Nat.le_of_ble_eq_true rfl)⟩) (py_preV hw (C := RX12) (T := TX12) (N := 54) rfl h_40) rfl rfl hl.1 rfl (lv_room (Nat.le_of_ble_eq_true rfl)) dX12_undo_37 ⟨(Nat.le_of_ble_eq_true rfl), (Nat.le_of_ble_eq_true rfl)⟩) (fun r_51 L_47 f_48 H_49 locs hp_50 hw => ?_)
    obtain ⟨en_52, en_53, rfl, rfl⟩ := hp_50
    have en_52 : r_51.toInt = nw f_38 G u x_46.toInt (6 : Int) := en_52
    have en_53 : ((6 : Int) = 0 → 0 ≤ r_51.toInt ∧ r_51.toInt ≤ 20) ∧ ((6 : Int) = 1 → -1 ≤ r_51.toInt ∧ r_51.toInt ≤ 7) := en_53
    have br_51 := wf_free r_51
    refine lv_aload_n G0.1 G0.2.1 dX12_undo_40 rfl (lv_at hl 1 rfl) ?_
    refine py_get (C := RX12) (T := TX12) (N := 54) (k := 41) (v := .ref (G.2 u 41)) G0 hw in_X12_undo_X12 rfl h_40 (by decide) (by decide +kernel) rfl dX12_undo_41 ?_
    refine lv_aload_n G0.1 G0.2.1 dX12_undo_44 rfl (lv_at hl 1 rfl) ?_
    refine py_get (C := RX12) (T := TX12) (N := 54) (k := 43) (v := .int x_37) G0 hw in_X12_undo_X12 rfl h_40 (by decide) (by decide +kernel) rfl dX12_undo_45 ?_
    obtain ⟨g_54, ha_55, hi_56⟩ := wf_arr (n := 40) (lo := (-2147483648)) (hi := 2147483647) hWF (wt12_41 hG Tu) (by decide) (fun _ => rfl)
    have rg_57 : vp_in x_37 40 := ti_in (by omega) (by omega)
    refine py_iald G0 hw ha_55 rg_57 dX12_undo_48 ?_
    refine lv_topi (fun x_58 ex_58 => ?_)
    have bx_58 := wf_free x_58
    refine lv_isub G0.1 G0.2.1 dX12_undo_49 ?_
    refine lv_topi (fun x_59 ex_59 => ?_)
    first | have tx_59 := ti_sub ex_59 (by omega -splitDisjunctions) (by omega -splitDisjunctions) | skip
    refine py_callv hw (va_runV (As := [.int x_46, .int 6, .int x_59]) (rest := []) G0 (c_X12_tell l E G L f_38 H_49.size u x_46 6 x_59 hG hWF Tu ⟨by omega, by omega⟩ ⟨by omega, by omega⟩ (show ((6 : Int32).toInt = 0 → 0 ≤ x_59.toInt ∧ x_59.toInt ≤ 20) ∧ ((6 : Int32).toInt = 1 → -1 ≤ x_59.toInt ∧ x_59.toInt ≤ 7) by omega)) (cwV 3 G0.2.2.2.2 g_X12_undo_X12_tell_305 rfl rfl rfl (by decide +kernel) ⟨(Nat.le_of_ble_eq_true rfl), (Nat.le_of_ble_eq_true rfl)⟩) (py_preV hw (C := RX12) (T := TX12) (N := 54) rfl h_40) rfl rfl hl.1 rfl (lv_room (Nat.le_of_ble_eq_true rfl)) dX12_undo_50 ⟨(Nat.le_of_ble_eq_true rfl), (Nat.le_of_ble_eq_true rfl)⟩) (fun L_60 f_61 H_62 locs hp_63 hw => ?_)
    obtain ⟨en_65, hWF, kp_66, fk_67⟩ := hp_63
    have en_65 : TL f_38 f_61 G u x_46.toInt (6 : Int) x_59.toInt := en_65
    have hFK := hFK.trans fk_67 (by decide)
    have hKP := hKP.trans kp_66 (by decide) (by decide)
    have h_40 := kp_at kp_66 hWF Tu (by decide) (by decide) (by decide) h_40
    have ha_43 := kp_at kp_66 hWF (wt12_40 hG Tu) (by decide) (by decide) (by decide) ha_43
    have ha_55 := kp_at kp_66 hWF (wt12_41 hG Tu) (by decide) (by decide) (by decide) ha_55
    refine lv_aload_n G0.1 G0.2.1 dX12_undo_53 rfl (lv_at hl 1 rfl) ?_
    refine lv_iload_n G0.1 G0.2.1 dX12_undo_54 rfl (lv_at hl 0 rfl) ?_
    refine lv_bipush (v := 8) G0.1 G0.2.1 dX12_undo_55 (by decide) ?_
    refine lv_aload_n G0.1 G0.2.1 dX12_undo_57 rfl (lv_at hl 1 rfl) ?_
    refine lv_iload_n G0.1 G0.2.1 dX12_undo_58 rfl (lv_at hl 0 rfl) ?_
    refine lv_bipush (v := 8) G0.1 G0.2.1 dX12_undo_59 (by decide) ?_
    refine py_calli hw (va_runV (As := [.int x_46, .int 8]) (rest := [.int 8, .int x_46, .ref u]) G0 (c_X12_of l E G L_60 f_61 H_62.size u x_46 8 hG hWF Tu ⟨by omega, by omega⟩ ⟨by omega, by omega⟩) (cwV 2 G0.2.2.2.2 g_X12_undo_X12_of_287 rfl rfl rfl (by decide +kernel) ⟨(Nat.le_of_ble_eq_true rfl), (Nat.le_of_ble_eq_true rfl)⟩) (py_preV hw (C := RX12) (T := TX12) (N := 54) rfl h_40) rfl rfl hl.1 rfl (lv_room (Nat.le_of_ble_eq_true rfl)) dX12_undo_61 ⟨(Nat.le_of_ble_eq_true rfl), (Nat.le_of_ble_eq_true rfl)⟩) (fun r_72 L_68 f_69 H_70 locs hp_71 hw => ?_)
    obtain ⟨en_73, en_74, rfl, rfl⟩ := hp_71
    have en_73 : r_72.toInt = nw f_61 G u x_46.toInt (8 : Int) := en_73
    have en_74 : ((8 : Int) = 0 → 0 ≤ r_72.toInt ∧ r_72.toInt ≤ 20) ∧ ((8 : Int) = 1 → -1 ≤ r_72.toInt ∧ r_72.toInt ≤ 7) := en_74
    have br_72 := wf_free r_72
    refine lv_aload_n G0.1 G0.2.1 dX12_undo_64 rfl (lv_at hl 1 rfl) ?_
    refine py_get (C := RX12) (T := TX12) (N := 54) (k := 42) (v := .ref (G.2 u 42)) G0 hw in_X12_undo_X12 rfl h_40 (by decide) (by decide +kernel) rfl dX12_undo_65 ?_
    refine lv_aload_n G0.1 G0.2.1 dX12_undo_68 rfl (lv_at hl 1 rfl) ?_
    refine py_get (C := RX12) (T := TX12) (N := 54) (k := 43) (v := .int x_37) G0 hw in_X12_undo_X12 rfl h_40 (by decide) (by decide +kernel) rfl dX12_undo_69 ?_
    obtain ⟨g_75, ha_76, hi_77⟩ := wf_arr (n := 40) (lo := (-2147483648)) (hi := 2147483647) hWF (wt12_42 hG Tu) (by decide) (fun _ => rfl)
    have rg_78 : vp_in x_37 40 := ti_in (by omega) (by omega)
    refine py_iald G0 hw ha_76 rg_78 dX12_undo_72 ?_
    refine lv_topi (fun x_79 ex_79 => ?_)
    have bx_79 := wf_free x_79
    refine lv_isub G0.1 G0.2.1 dX12_undo_73 ?_
    refine lv_topi (fun x_80 ex_80 => ?_)
    first | have tx_80 := ti_sub ex_80 (by omega -splitDisjunctions) (by omega -splitDisjunctions) | skip
    refine py_callv hw (va_runV (As := [.int x_46, .int 8, .int x_80]) (rest := []) G0 (c_X12_tell l E G L_60 f_61 H_70.size u x_46 8 x_80 hG hWF Tu ⟨by omega, by omega⟩ ⟨by omega, by omega⟩ (show ((8 : Int32).toInt = 0 → 0 ≤ x_80.toInt ∧ x_80.toInt ≤ 20) ∧ ((8 : Int32).toInt = 1 → -1 ≤ x_80.toInt ∧ x_80.toInt ≤ 7) by omega)) (cwV 3 G0.2.2.2.2 g_X12_undo_X12_tell_305 rfl rfl rfl (by decide +kernel) ⟨(Nat.le_of_ble_eq_true rfl), (Nat.le_of_ble_eq_true rfl)⟩) (py_preV hw (C := RX12) (T := TX12) (N := 54) rfl h_40) rfl rfl hl.1 rfl (lv_room (Nat.le_of_ble_eq_true rfl)) dX12_undo_74 ⟨(Nat.le_of_ble_eq_true rfl), (Nat.le_of_ble_eq_true rfl)⟩) (fun L_81 f_82 H_83 locs hp_84 hw => ?_)
    obtain ⟨en_86, hWF, kp_87, fk_88⟩ := hp_84
    have en_86 : TL f_61 f_82 G u x_46.toInt (8 : Int) x_80.toInt := en_86
    have hFK := hFK.trans fk_88 (by decide)
    have hKP := hKP.trans kp_87 (by decide) (by decide)
    have h_40 := kp_at kp_87 hWF Tu (by decide) (by decide) (by decide) h_40
    have ha_43 := kp_at kp_87 hWF (wt12_40 hG Tu) (by decide) (by decide) (by decide) ha_43
    have ha_55 := kp_at kp_87 hWF (wt12_41 hG Tu) (by decide) (by decide) (by decide) ha_55
    have ha_76 := kp_at kp_87 hWF (wt12_42 hG Tu) (by decide) (by decide) (by decide) ha_76
    refine lv_iload_n G0.1 G0.2.1 dX12_undo_77 rfl (lv_at hl 0 rfl) ?_
    exact py_iret G0 hr rfl hlk hw ⟨hWF, hKP, hFK⟩ dX12_undo_78
  · skip
    have tc_36 := ti_eq c_36
    refine lv_iconst (v := (-1)) G0.1 G0.2.1 dX12_undo_7 (by decide) ?_
    exact py_iret G0 hr rfl hlk hw ⟨hWF, hKP, hFK⟩ dX12_undo_8
