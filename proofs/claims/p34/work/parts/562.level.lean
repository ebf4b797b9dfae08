section PYT
variable {p : Program} {l : Launch} {e : Env} {R : Room} {s : State} {m : MethodId} {args : Array Value} {below : List Frame} {meth : Method} {c : Code} {H : Heap} {locs : List Loc} {cells slots : Nat} {Q : State → Prop}
variable {cc : ByteArray} {nL pc : Nat} {ls : Array Slot} {rest : List Value} {E : py_E} {A : Nat → Prop} {L : List Nat} {f : py_F} {Ts : List Cond} {own : String} {a : Nat}
theorem py_thw {args : Array Value} (h : py_X s) : ∀ w ∈ py_th, w.before args s = true := fun w hw => va_Nw.use (py_th_on w hw) (h.1.2 w hw)
end PYT
theorem dL_level_0 : decode cL_level 0 = .ok (.aload_n 3, 1) := by decide +kernel
theorem dL_level_1 : decode cL_level 1 = .ok (.iconst 0, 1) := by decide +kernel
theorem dL_level_2 : decode cL_level 2 = .ok (.aload_n 0, 1) := by decide +kernel
theorem dL_level_3 : decode cL_level 3 = .ok (.iload_n 1, 1) := by decide +kernel
theorem dL_level_4 : decode cL_level 4 = .ok (.iload_n 2, 1) := by decide +kernel
theorem dL_level_5 : decode cL_level 5 = .ok (.invokevirtual 7, 3) := by decide +kernel
theorem dL_level_8 : decode cL_level 8 = .ok (.i2l, 1) := by decide +kernel
theorem dL_level_9 : decode cL_level 9 = .ok (.lastore, 1) := by decide +kernel
theorem dL_level_10 : decode cL_level 10 = .ok (.goto 7, 3) := by decide +kernel
theorem dL_level_13 : decode cL_level 13 = .ok (.astore 4, 2) := by decide +kernel
theorem dL_level_15 : decode cL_level 15 = .ok (.iconst 1, 1) := by decide +kernel
theorem dL_level_16 : decode cL_level 16 = .ok (.ireturn, 1) := by decide +kernel
theorem dL_level_17 : decode cL_level 17 = .ok (.iconst 0, 1) := by decide +kernel
theorem dL_level_18 : decode cL_level 18 = .ok (.ireturn, 1) := by decide +kernel
theorem dX11_level_0 : decode cX11_level 0 = .ok (.aload_n 0, 1) := by decide +kernel
theorem dX11_level_1 : decode cX11_level 1 = .ok (.getfield 47, 3) := by decide +kernel
theorem dX11_level_4 : decode cX11_level 4 = .ok (.getfield 128, 3) := by decide +kernel
theorem dX11_level_7 : decode cX11_level 7 = .ok (.astore_n 3, 1) := by decide +kernel
theorem dX11_level_8 : decode cX11_level 8 = .ok (.aload_n 0, 1) := by decide +kernel
theorem dX11_level_9 : decode cX11_level 9 = .ok (.iload_n 1, 1) := by decide +kernel
theorem dX11_level_10 : decode cX11_level 10 = .ok (.invokevirtual 132, 3) := by decide +kernel
theorem dX11_level_13 : decode cX11_level 13 = .ok (.ifCond .ne 11, 3) := by decide +kernel
theorem dX11_level_16 : decode cX11_level 16 = .ok (.new 136, 3) := by decide +kernel
theorem dX11_level_19 : decode cX11_level 19 = .ok (.dup, 1) := by decide +kernel
theorem dX11_level_20 : decode cX11_level 20 = .ok (.invokespecial 138, 3) := by decide +kernel
theorem dX11_level_23 : decode cX11_level 23 = .ok (.athrow, 1) := by decide +kernel
theorem dX11_level_24 : decode cX11_level 24 = .ok (.iload_n 2, 1) := by decide +kernel
theorem dX11_level_25 : decode cX11_level 25 = .ok (.tableswitch 98 0 6 #[43, 50, 57, 64, 71, 80, 89], 43) := by decide +kernel
theorem dX11_level_68 : decode cX11_level 68 = .ok (.aload_n 3, 1) := by decide +kernel
theorem dX11_level_69 : decode cX11_level 69 = .ok (.getfield 139, 3) := by decide +kernel
theorem dX11_level_72 : decode cX11_level 72 = .ok (.iload_n 1, 1) := by decide +kernel
theorem dX11_level_73 : decode cX11_level 73 = .ok (.iaload, 1) := by decide +kernel
theorem dX11_level_74 : decode cX11_level 74 = .ok (.ireturn, 1) := by decide +kernel
theorem dX11_level_75 : decode cX11_level 75 = .ok (.aload_n 3, 1) := by decide +kernel
theorem dX11_level_76 : decode cX11_level 76 = .ok (.getfield 145, 3) := by decide +kernel
theorem dX11_level_79 : decode cX11_level 79 = .ok (.iload_n 1, 1) := by decide +kernel
theorem dX11_level_80 : decode cX11_level 80 = .ok (.iaload, 1) := by decide +kernel
theorem dX11_level_81 : decode cX11_level 81 = .ok (.ireturn, 1) := by decide +kernel
theorem dX11_level_82 : decode cX11_level 82 = .ok (.aload_n 3, 1) := by decide +kernel
theorem dX11_level_83 : decode cX11_level 83 = .ok (.getfield 148, 3) := by decide +kernel
theorem dX11_level_86 : decode cX11_level 86 = .ok (.iload_n 1, 1) := by decide +kernel
theorem dX11_level_87 : decode cX11_level 87 = .ok (.iaload, 1) := by decide +kernel
theorem dX11_level_88 : decode cX11_level 88 = .ok (.ireturn, 1) := by decide +kernel
theorem dX11_level_89 : decode cX11_level 89 = .ok (.aload_n 3, 1) := by decide +kernel
theorem dX11_level_90 : decode cX11_level 90 = .ok (.getfield 151, 3) := by decide +kernel
theorem dX11_level_93 : decode cX11_level 93 = .ok (.iload_n 1, 1) := by decide +kernel
theorem dX11_level_94 : decode cX11_level 94 = .ok (.iaload, 1) := by decide +kernel
theorem dX11_level_95 : decode cX11_level 95 = .ok (.ireturn, 1) := by decide +kernel
theorem dX11_level_96 : decode cX11_level 96 = .ok (.aload_n 0, 1) := by decide +kernel
theorem dX11_level_97 : decode cX11_level 97 = .ok (.getfield 47, 3) := by decide +kernel
theorem dX11_level_100 : decode cX11_level 100 = .ok (.iload_n 1, 1) := by decide +kernel
theorem dX11_level_101 : decode cX11_level 101 = .ok (.invokevirtual 154, 3) := by decide +kernel
theorem dX11_level_104 : decode cX11_level 104 = .ok (.ireturn, 1) := by decide +kernel
theorem dX11_level_105 : decode cX11_level 105 = .ok (.aload_n 0, 1) := by decide +kernel
theorem dX11_level_106 : decode cX11_level 106 = .ok (.getfield 47, 3) := by decide +kernel
theorem dX11_level_109 : decode cX11_level 109 = .ok (.iload_n 1, 1) := by decide +kernel
theorem dX11_level_110 : decode cX11_level 110 = .ok (.invokevirtual 157, 3) := by decide +kernel
theorem dX11_level_113 : decode cX11_level 113 = .ok (.ireturn, 1) := by decide +kernel
theorem dX11_level_114 : decode cX11_level 114 = .ok (.aload_n 0, 1) := by decide +kernel
theorem dX11_level_115 : decode cX11_level 115 = .ok (.getfield 47, 3) := by decide +kernel
theorem dX11_level_118 : decode cX11_level 118 = .ok (.iload_n 1, 1) := by decide +kernel
theorem dX11_level_119 : decode cX11_level 119 = .ok (.invokevirtual 160, 3) := by decide +kernel
theorem dX11_level_122 : decode cX11_level 122 = .ok (.ireturn, 1) := by decide +kernel
theorem dX11_level_123 : decode cX11_level 123 = .ok (.new 136, 3) := by decide +kernel
theorem dX11_level_126 : decode cX11_level 126 = .ok (.dup, 1) := by decide +kernel
theorem dX11_level_127 : decode cX11_level 127 = .ok (.invokespecial 138, 3) := by decide +kernel
theorem dX11_level_130 : decode cX11_level 130 = .ok (.athrow, 1) := by decide +kernel
def w_X11_level : List Cond := .code yX11_level cX11_level 4 (some .int) :: ([Cond.fieldLink RX11 47 "HeadYear" "folk" "LHeadYear$Folk;", Cond.fieldLink RX11 128 "HeadYear$Folk" "valley" "LHeadYear$Valley;", Cond.methodLink RX11 132 yX11_isLevel, Cond.instanceMethod yX11_isLevel, Cond.selects RX11 yX11_isLevel yX11_isLevel, Cond.initialized RX11, Cond.fieldLink RX11 139 "HeadYear$Valley" "huts" "[I", Cond.fieldLink RX11 145 "HeadYear$Valley" "food" "[I", Cond.fieldLink RX11 148 "HeadYear$Valley" "danger" "[I", Cond.fieldLink RX11 151 "HeadYear$Valley" "brow" "[I", Cond.methodLink RX11 154 yX2_headsAt, Cond.instanceMethod yX2_headsAt, Cond.selects RX2 yX2_headsAt yX2_headsAt, Cond.initialized RX2, Cond.methodLink RX11 157 yX2_familiesAt, Cond.instanceMethod yX2_familiesAt, Cond.selects RX2 yX2_familiesAt yX2_familiesAt, Cond.methodLink RX11 160 yX2_lackAt, Cond.instanceMethod yX2_lackAt, Cond.selects RX2 yX2_lackAt yX2_lackAt, Cond.classLink RX11 136 "java/util/NoSuchElementException", Cond.initialized "java/util/NoSuchElementException"] ++ (u_ws RX11 TX11 16 ++ (u_ws RX2 TX2 12 ++ (u_ws RX9 TX9 10 ++ (w_X11_isLevel ++ (w_X2_headsAt ++ (w_X2_familiesAt ++ (w_X2_lackAt ++ ((vx_at0 RX11 138 "java/util/NoSuchElementException" ["java/lang/RuntimeException", "java/lang/Exception"]).filter goodWord)))))))))
theorem in_X11_level_X11 : ∀ w ∈ u_ws RX11 TX11 16, w ∈ w_X11_level := fun _ h => List.mem_cons_of_mem _ (List.mem_append_right _ (List.mem_append_left _ h))
theorem in_X11_level_X2 : ∀ w ∈ u_ws RX2 TX2 12, w ∈ w_X11_level := fun _ h => List.mem_cons_of_mem _ (List.mem_append_right _ (List.mem_append_right _ (List.mem_append_left _ h)))
theorem in_X11_level_X9 : ∀ w ∈ u_ws RX9 TX9 10, w ∈ w_X11_level := fun _ h => List.mem_cons_of_mem _ (List.mem_append_right _ (List.mem_append_right _ (List.mem_append_right _ (List.mem_append_left _ h))))
theorem gg_X11_level_X11_isLevel : GoodIn w_X11_level w_X11_isLevel := goodIn_sub (fun _ h => List.mem_cons_of_mem _ (List.mem_append_right _ (List.mem_append_right _ (List.mem_append_right _ (List.mem_append_right _ (List.mem_append_left _ h)))))) (by decide +kernel)
theorem gg_X11_level_X2_headsAt : GoodIn w_X11_level w_X2_headsAt := goodIn_sub (fun _ h => List.mem_cons_of_mem _ (List.mem_append_right _ (List.mem_append_right _ (List.mem_append_right _ (List.mem_append_right _ (List.mem_append_right _ (List.mem_append_left _ h))))))) (by decide +kernel)
theorem gg_X11_level_X2_familiesAt : GoodIn w_X11_level w_X2_familiesAt := goodIn_sub (fun _ h => List.mem_cons_of_mem _ (List.mem_append_right _ (List.mem_append_right _ (List.mem_append_right _ (List.mem_append_right _ (List.mem_append_right _ (List.mem_append_right _ (List.mem_append_left _ h)))))))) (by decide +kernel)
theorem gg_X11_level_X2_lackAt : GoodIn w_X11_level w_X2_lackAt := goodIn_sub (fun _ h => List.mem_cons_of_mem _ (List.mem_append_right _ (List.mem_append_right _ (List.mem_append_right _ (List.mem_append_right _ (List.mem_append_right _ (List.mem_append_right _ (List.mem_append_right _ (List.mem_append_left _ h))))))))) (by decide +kernel)
theorem at_X11_level : ∀ w ∈ (vx_at0 RX11 138 "java/util/NoSuchElementException" ["java/lang/RuntimeException", "java/lang/Exception"]).filter goodWord, w ∈ w_X11_level := fun _ h => List.mem_cons_of_mem _ (List.mem_append_right _ (List.mem_append_right _ (List.mem_append_right _ (List.mem_append_right _ (List.mem_append_right _ (List.mem_append_right _ (List.mem_append_right _ (List.mem_append_right _ (h)))))))))
theorem g_X11_level_X11_isLevel_132 : GoodIn w_X11_level (wsV RX11 132 RX11 yX11_isLevel w_X11_isLevel) := goodIn_app (goodIn_of _ (by decide +kernel)) gg_X11_level_X11_isLevel
theorem g_X11_level_X2_familiesAt_157 : GoodIn w_X11_level (wsV RX11 157 RX2 yX2_familiesAt w_X2_familiesAt) := goodIn_app (goodIn_of _ (by decide +kernel)) gg_X11_level_X2_familiesAt
theorem g_X11_level_X2_headsAt_154 : GoodIn w_X11_level (wsV RX11 154 RX2 yX2_headsAt w_X2_headsAt) := goodIn_app (goodIn_of _ (by decide +kernel)) gg_X11_level_X2_headsAt
theorem g_X11_level_X2_lackAt_160 : GoodIn w_X11_level (wsV RX11 160 RX2 yX2_lackAt w_X2_lackAt) := goodIn_app (goodIn_of _ (by decide +kernel)) gg_X11_level_X2_lackAt
theorem sw_X11_level_25 (x : Int32) : x = 0 ∨ x = 1 ∨ x = 2 ∨ x = 3 ∨ x = 4 ∨ x = 5 ∨ x = 6 ∨ (x.toInt < 0 ∨ 6 < x.toInt) := by
  by_cases h0 : x = 0
  · exact Or.inl h0
  by_cases h1 : x = 1
  · exact Or.inr (Or.inl h1)
  by_cases h2 : x = 2
  · exact Or.inr (Or.inr (Or.inl h2))
  by_cases h3 : x = 3
  · exact Or.inr (Or.inr (Or.inr (Or.inl h3)))
  by_cases h4 : x = 4
  · exact Or.inr (Or.inr (Or.inr (Or.inr (Or.inl h4))))
  by_cases h5 : x = 5
  · exact Or.inr (Or.inr (Or.inr (Or.inr (Or.inr (Or.inl h5)))))
  by_cases h6 : x = 6
  · exact Or.inr (Or.inr (Or.inr (Or.inr (Or.inr (Or.inr (Or.inl h6))))))
  have t0 := ti_ne h0
  have k0 : (0 : Int32).toInt = 0 := rfl
  have t1 := ti_ne h1
  have k1 : (1 : Int32).toInt = 1 := rfl
  have t2 := ti_ne h2
  have k2 : (2 : Int32).toInt = 2 := rfl
  have t3 := ti_ne h3
  have k3 : (3 : Int32).toInt = 3 := rfl
  have t4 := ti_ne h4
  have k4 : (4 : Int32).toInt = 4 := rfl
  have t5 := ti_ne h5
  have k5 : (5 : Int32).toInt = 5 := rfl
  have t6 := ti_ne h6
  have k6 : (6 : Int32).toInt = 6 := rfl
  exact Or.inr (Or.inr (Or.inr (Or.inr (Or.inr (Or.inr (Or.inr ((by omega))))))))
set_option maxHeartbeats 4000000 in
set_option maxRecDepth 100000 in
theorem c_X11_level (l : Launch) (hst : l.stackTraces = false) (E : py_E) (G : wf_G) (L : List Nat) (f : py_F) (sz : Nat) (x : Nat) (a b : Int32) (hG : GT G) (hWF : WF E G L f) (Tx : G.1 x = 12) : vx_Met l yX11_level w_X11_level ({ frames := 6, cells := 1, slots := 6, locals := 90 }) (py_Pc E [.ref x, .int a, .int b] L f sz) (py_Qi E L f sz (fun _ L1 f1 => L = L1 ∧ f = f1)) (vx_X (S := Unit) (fun _ => True) (fun C _ t => C = "java/util/NoSuchElementException" ∧ va_P E.1 vwCl (va_pl L f) t.heap) (va_A (va_pl L f) sz)) 1 6 (va_A (va_pl L f) sz) := by
  refine vx_ofW (cc := cX11_level) (maxL := 4) (ret := (some .int)) (by decide) rfl ?_
  intro p e s m args below meth c s₁ B hml htb hv
  obtain ⟨rfl, rfl, hw⟩ := py_start hv
  have G0 : CallFix p m c cX11_level 4 s _ w_X11_level RX11 := ⟨B.exec, B.bytes, hml, findClass_of_methodNamed B.named, atoms_spec (ws := w_X11_level) B.pre⟩
  have hr := B.returns
  have hlk := B.notSynchronized
  have kcm1 : (-1 : Int32).toInt = -1 := rfl
  have kc0 : (0 : Int32).toInt = 0 := rfl
  have kc1 : (1 : Int32).toInt = 1 := rfl
  have kc2 : (2 : Int32).toInt = 2 := rfl
  have kc3 : (3 : Int32).toInt = 3 := rfl
  have kc4 : (4 : Int32).toInt = 4 := rfl
  have kc5 : (5 : Int32).toInt = 5 := rfl
  have kc6 : (6 : Int32).toInt = 6 := rfl
  have hl := lv_entry ([.ref x, .int a, .int b]) (n := 4) (Nat.le_of_ble_eq_true rfl)
  rw [lg_entry_eq]
  generalize (lg_sl ([.ref x, .int a, .int b]) ++ List.replicate (4 - (lg_sl ([.ref x, .int a, .int b])).length) Slot.unset).toArray = ls at hl ⊢
  have hl : lv_has ls 4 [(0, .ref x), (1, .int a), (2, .int b)] := hl
  refine lv_aload_n G0.1 G0.2.1 dX11_level_0 rfl (lv_at hl 0 rfl) ?_
  obtain ⟨t_1, t_2, t_3, t_4, t_5, t_6, t_7, t_8, t_9, t_10, t_11, t_12, t_13, tx_14, tx_15, tx_16, tx_17⟩ := wt_11 hG Tx
  obtain ⟨v_18, v_19, v_20, hr_24, b_21, b_22, b_23⟩ := wg_11 hWF Tx
  have tq_25 := hy_eq hr_24
  refine py_get (C := RX11) (T := TX11) (N := 16) (k := 5) (v := .ref (G.2 x 5)) G0 hw in_X11_level_X11 rfl hr_24 (by decide) (by decide +kernel) rfl dX11_level_1 ?_
  obtain ⟨t_26, t_27, t_28, t_29, t_30, t_31, t_32, t_33, t_34⟩ := wt_2 hG t_6
  obtain ⟨r_35, y_36, v_37, hr_40, ty_38, b_39⟩ := wg_2 hWF t_6
  refine py_get (C := RX2) (T := TX2) (N := 12) (k := 9) (v := .ref r_35) G0 hw in_X11_level_X2 rfl hr_40 (by decide) (by decide +kernel) rfl dX11_level_4 ?_
  refine lv_astore_n (lv' := [(3, .ref r_35), (0, .ref x), (1, .int a), (2, .int b)]) G0.1 G0.2.1 dX11_level_7 rfl hl (by decide) rfl (fun ls hl => ?_)
  refine lv_aload_n G0.1 G0.2.1 dX11_level_8 rfl (lv_at hl 1 rfl) ?_
  refine lv_iload_n G0.1 G0.2.1 dX11_level_9 rfl (lv_at hl 2 rfl) ?_
  refine py_calli hw (va_runV (As := [.int a]) (rest := []) G0 (c_X11_isLevel l E G L f s.heap.size x a hG hWF Tx) (cwV 1 G0.2.2.2.2 g_X11_level_X11_isLevel_132 rfl rfl rfl (by decide +kernel) ⟨(Nat.le_of_ble_eq_true rfl), (Nat.le_of_ble_eq_true rfl)⟩) (py_preV hw (C := RX11) (T := TX11) (N := 16) rfl hr_24) rfl rfl hl.1 rfl (lv_room (Nat.le_of_ble_eq_true rfl)) dX11_level_10 ⟨(Nat.le_of_ble_eq_true rfl), (Nat.le_of_ble_eq_true rfl)⟩) (fun r_45 L_41 f_42 H_43 locs hp_44 hw => ?_)
  obtain ⟨b_47, en_46, rfl, rfl⟩ := hp_44
  refine lv_if_ne (tgt := 24) G0.1 G0.2.1 dX11_level_13 (by decide) (fun c_48 => ?_) (fun c_48 => ?_)
  · skip
    have tc_48 := ti_ne c_48
    refine lv_iload_n G0.1 G0.2.1 dX11_level_24 rfl (lv_at hl 3 rfl) ?_
    rcases sw_X11_level_25 b with e_sw | e_sw | e_sw | e_sw | e_sw | e_sw | e_sw | e_sw
    · skip
      have te := ti_eq e_sw
      refine lv_tableIn (off := 43) (tgt := 68) G0.1 G0.2.1 dX11_level_25 (by omega) (by omega) (by rw [e_sw]; decide) (by decide) ?_
      refine lv_aload_n G0.1 G0.2.1 dX11_level_68 rfl (lv_at hl 0 rfl) ?_
      obtain ⟨t_49, t_50, t_51, t_52, t_53, t_54, t_55, t_56⟩ := wt_9 hG ty_38
      obtain ⟨v_57, v_58, hr_61, b_59, b_60⟩ := wg_9 hWF ty_38
      have tq_62 := va_eq hr_61
      refine py_get (C := RX9) (T := TX9) (N := 10) (k := 0) (v := .ref (G.2 r_35 0)) G0 hw in_X11_level_X9 rfl hr_61 (by decide) (by decide +kernel) rfl dX11_level_69 ?_
      refine lv_iload_n G0.1 G0.2.1 dX11_level_72 rfl (lv_at hl 2 rfl) ?_
      obtain ⟨g_63, ha_64, hi_65⟩ := wf_arr (n := 8) (lo := (-2147483648)) (hi := 2147483647) hWF t_49 (by decide) (fun _ => rfl)
      have rg_66 : vp_in a 8 := ti_in (by omega) (by omega)
      refine py_iald G0 hw ha_64 rg_66 dX11_level_73 ?_
      refine lv_topi (fun x_67 ex_67 => ?_)
      have bx_67 := wf_free x_67
      refine vx_ret ?_
      refine W.widen (k := 1) (n := 6) (Nat.le_of_ble_eq_true rfl) (Nat.le_of_ble_eq_true rfl) ?_
      exact py_iret G0 hr rfl hlk hw ⟨rfl, rfl⟩ dX11_level_74
    · skip
      have te := ti_eq e_sw
      refine lv_tableIn (off := 50) (tgt := 75) G0.1 G0.2.1 dX11_level_25 (by omega) (by omega) (by rw [e_sw]; decide) (by decide) ?_
      refine lv_aload_n G0.1 G0.2.1 dX11_level_75 rfl (lv_at hl 0 rfl) ?_
      obtain ⟨t_68, t_69, t_70, t_71, t_72, t_73, t_74, t_75⟩ := wt_9 hG ty_38
      obtain ⟨v_76, v_77, hr_80, b_78, b_79⟩ := wg_9 hWF ty_38
      have tq_81 := va_eq hr_80
      refine py_get (C := RX9) (T := TX9) (N := 10) (k := 1) (v := .ref (G.2 r_35 1)) G0 hw in_X11_level_X9 rfl hr_80 (by decide) (by decide +kernel) rfl dX11_level_76 ?_
      refine lv_iload_n G0.1 G0.2.1 dX11_level_79 rfl (lv_at hl 2 rfl) ?_
      obtain ⟨g_82, ha_83, hi_84⟩ := wf_arr (n := 8) (lo := (-2147483648)) (hi := 2147483647) hWF t_69 (by decide) (fun _ => rfl)
      have rg_85 : vp_in a 8 := ti_in (by omega) (by omega)
      refine py_iald G0 hw ha_83 rg_85 dX11_level_80 ?_
      refine lv_topi (fun x_86 ex_86 => ?_)
      have bx_86 := wf_free x_86
      refine vx_ret ?_
      refine W.widen (k := 1) (n := 6) (Nat.le_of_ble_eq_true rfl) (Nat.le_of_ble_eq_true rfl) ?_
      exact py_iret G0 hr rfl hlk hw ⟨rfl, rfl⟩ dX11_level_81
    · skip
      have te := ti_eq e_sw
      refine lv_tableIn (off := 57) (tgt := 82) G0.1 G0.2.1 dX11_level_25 (by omega) (by omega) (by rw [e_sw]; decide) (by decide) ?_
      refine lv_aload_n G0.1 G0.2.1 dX11_level_82 rfl (lv_at hl 0 rfl) ?_
      obtain ⟨t_87, t_88, t_89, t_90, t_91, t_92, t_93, t_94⟩ := wt_9 hG ty_38
      obtain ⟨v_95, v_96, hr_99, b_97, b_98⟩ := wg_9 hWF ty_38
      have tq_100 := va_eq hr_99
      refine py_get (C := RX9) (T := TX9) (N := 10) (k := 2) (v := .ref (G.2 r_35 2)) G0 hw in_X11_level_X9 rfl hr_99 (by decide) (by decide +kernel) rfl dX11_level_83 ?_
      refine lv_iload_n G0.1 G0.2.1 dX11_level_86 rfl (lv_at hl 2 rfl) ?_
      obtain ⟨g_101, ha_102, hi_103⟩ := wf_arr (n := 8) (lo := (-2147483648)) (hi := 2147483647) hWF t_89 (by decide) (fun _ => rfl)
      have rg_104 : vp_in a 8 := ti_in (by omega) (by omega)
      refine py_iald G0 hw ha_102 rg_104 dX11_level_87 ?_
      refine lv_topi (fun x_105 ex_105 => ?_)
      have bx_105 := wf_free x_105
      refine vx_ret ?_
      refine W.widen (k := 1) (n := 6) (Nat.le_of_ble_eq_true rfl) (Nat.le_of_ble_eq_true rfl) ?_
      exact py_iret G0 hr rfl hlk hw ⟨rfl, rfl⟩ dX11_level_88
    · skip
      have te := ti_eq e_sw
      refine lv_tableIn (off := 64) (tgt := 89) G0.1 G0.2.1 dX11_level_25 (by omega) (by omega) (by rw [e_sw]; decide) (by decide) ?_
      refine lv_aload_n G0.1 G0.2.1 dX11_level_89 rfl (lv_at hl 0 rfl) ?_
      obtain ⟨t_106, t_107, t_108, t_109, t_110, t_111, t_112, t_113⟩ := wt_9 hG ty_38
      obtain ⟨v_114, v_115, hr_118, b_116, b_117⟩ := wg_9 hWF ty_38
      have tq_119 := va_eq hr_118
      refine py_get (C := RX9) (T := TX9) (N := 10) (k := 3) (v := .ref (G.2 r_35 3)) G0 hw in_X11_level_X9 rfl hr_118 (by decide) (by decide +kernel) rfl dX11_level_90 ?_
      refine lv_iload_n G0.1 G0.2.1 dX11_level_93 rfl (lv_at hl 2 rfl) ?_
      obtain ⟨g_120, ha_121, hi_122⟩ := wf_arr (n := 8) (lo := (-2147483648)) (hi := 2147483647) hWF t_109 (by decide) (fun _ => rfl)
      have rg_123 : vp_in a 8 := ti_in (by omega) (by omega)
      refine py_iald G0 hw ha_121 rg_123 dX11_level_94 ?_
      refine lv_topi (fun x_124 ex_124 => ?_)
      have bx_124 := wf_free x_124
      refine vx_ret ?_
      refine W.widen (k := 1) (n := 6) (Nat.le_of_ble_eq_true rfl) (Nat.le_of_ble_eq_true rfl) ?_
      exact py_iret G0 hr rfl hlk hw ⟨rfl, rfl⟩ dX11_level_95
    · skip
      have te := ti_eq e_sw
      refine lv_tableIn (off := 71) (tgt := 96) G0.1 G0.2.1 dX11_level_25 (by omega) (by omega) (by rw [e_sw]; decide) (by decide) ?_
      refine lv_aload_n G0.1 G0.2.1 dX11_level_96 rfl (lv_at hl 1 rfl) ?_
      refine py_get (C := RX11) (T := TX11) (N := 16) (k := 5) (v := .ref (G.2 x 5)) G0 hw in_X11_level_X11 rfl hr_24 (by decide) (by decide +kernel) rfl dX11_level_97 ?_
      refine lv_iload_n G0.1 G0.2.1 dX11_level_100 rfl (lv_at hl 2 rfl) ?_
      refine py_calli hw (va_runV (As := [.int a]) (rest := []) G0 (c_X2_headsAt l E G L f H_43.size (G.2 x 5) a hG hWF t_6) (cwV 1 G0.2.2.2.2 g_X11_level_X2_headsAt_154 rfl rfl rfl (by decide +kernel) ⟨(Nat.le_of_ble_eq_true rfl), (Nat.le_of_ble_eq_true rfl)⟩) (py_preV hw (C := RX2) (T := TX2) (N := 12) rfl hr_40) rfl rfl hl.1 rfl (lv_room (Nat.le_of_ble_eq_true rfl)) dX11_level_101 ⟨(Nat.le_of_ble_eq_true rfl), (Nat.le_of_ble_eq_true rfl)⟩) (fun r_129 L_125 f_126 H_127 locs hp_128 hw => ?_)
      obtain ⟨rfl, rfl⟩ := hp_128
      have br_129 := wf_free r_129
      refine vx_ret ?_
      refine W.widen (k := 1) (n := 6) (Nat.le_of_ble_eq_true rfl) (Nat.le_of_ble_eq_true rfl) ?_
      exact py_iret G0 hr rfl hlk hw ⟨rfl, rfl⟩ dX11_level_104
    · skip
      have te := ti_eq e_sw
      refine lv_tableIn (off := 80) (tgt := 105) G0.1 G0.2.1 dX11_level_25 (by omega) (by omega) (by rw [e_sw]; decide) (by decide) ?_
      refine lv_aload_n G0.1 G0.2.1 dX11_level_105 rfl (lv_at hl 1 rfl) ?_
      refine py_get (C := RX11) (T := TX11) (N := 16) (k := 5) (v := .ref (G.2 x 5)) G0 hw in_X11_level_X11 rfl hr_24 (by decide) (by decide +kernel) rfl dX11_level_106 ?_
      refine lv_iload_n G0.1 G0.2.1 dX11_level_109 rfl (lv_at hl 2 rfl) ?_
      refine py_calli hw (va_runV (As := [.int a]) (rest := []) G0 (c_X2_familiesAt l E G L f H_43.size (G.2 x 5) a hG hWF t_6) (cwV 1 G0.2.2.2.2 g_X11_level_X2_familiesAt_157 rfl rfl rfl (by decide +kernel) ⟨(Nat.le_of_ble_eq_true rfl), (Nat.le_of_ble_eq_true rfl)⟩) (py_preV hw (C := RX2) (T := TX2) (N := 12) rfl hr_40) rfl rfl hl.1 rfl (lv_room (Nat.le_of_ble_eq_true rfl)) dX11_level_110 ⟨(Nat.le_of_ble_eq_true rfl), (Nat.le_of_ble_eq_true rfl)⟩) (fun r_134 L_130 f_131 H_132 locs hp_133 hw => ?_)
      obtain ⟨rfl, rfl⟩ := hp_133
      have br_134 := wf_free r_134
      refine vx_ret ?_
      refine W.widen (k := 1) (n := 6) (Nat.le_of_ble_eq_true rfl) (Nat.le_of_ble_eq_true rfl) ?_
      exact py_iret G0 hr rfl hlk hw ⟨rfl, rfl⟩ dX11_level_113
    · skip
      have te := ti_eq e_sw
      refine lv_tableIn (off := 89) (tgt := 114) G0.1 G0.2.1 dX11_level_25 (by omega) (by omega) (by rw [e_sw]; decide) (by decide) ?_
      refine lv_aload_n G0.1 G0.2.1 dX11_level_114 rfl (lv_at hl 1 rfl) ?_
      refine py_get (C := RX11) (T := TX11) (N := 16) (k := 5) (v := .ref (G.2 x 5)) G0 hw in_X11_level_X11 rfl hr_24 (by decide) (by decide +kernel) rfl dX11_level_115 ?_
      refine lv_iload_n G0.1 G0.2.1 dX11_level_118 rfl (lv_at hl 2 rfl) ?_
      refine py_calli hw (va_runV (As := [.int a]) (rest := []) G0 (c_X2_lackAt l E G L f H_43.size (G.2 x 5) a hG hWF t_6 ⟨by omega, by omega⟩) (cwV 1 G0.2.2.2.2 g_X11_level_X2_lackAt_160 rfl rfl rfl (by decide +kernel) ⟨(Nat.le_of_ble_eq_true rfl), (Nat.le_of_ble_eq_true rfl)⟩) (py_preV hw (C := RX2) (T := TX2) (N := 12) rfl hr_40) rfl rfl hl.1 rfl (lv_room (Nat.le_of_ble_eq_true rfl)) dX11_level_119 ⟨(Nat.le_of_ble_eq_true rfl), (Nat.le_of_ble_eq_true rfl)⟩) (fun r_139 L_135 f_136 H_137 locs hp_138 hw => ?_)
      obtain ⟨rfl, rfl⟩ := hp_138
      have br_139 := wf_free r_139
      refine vx_ret ?_
      refine W.widen (k := 1) (n := 6) (Nat.le_of_ble_eq_true rfl) (Nat.le_of_ble_eq_true rfl) ?_
      exact py_iret G0 hr rfl hlk hw ⟨rfl, rfl⟩ dX11_level_122
    · skip
      refine lv_tableOut (tgt := 123) G0.1 G0.2.1 dX11_level_25 e_sw (by decide) ?_
      refine W.widen (k := 0) (n := 0) (Nat.le_of_ble_eq_true rfl) (Nat.le_of_ble_eq_true rfl) ?_
      refine vx_throw0 (own := RX11) (cls := "java/util/NoSuchElementException") (names := ["java/lang/RuntimeException", "java/lang/Exception"]) (ik := 136) (ic := 138) (A := va_A (va_pl L f) s.heap.size) G0.1 G0.2.1 hst G0.2.2.2.1 (by decide +kernel) (by decide +kernel) (G0.2.2.2.2 (Cond.classLink RX11 136 "java/util/NoSuchElementException") (by decide +kernel)) (G0.2.2.2.2 (Cond.initialized "java/util/NoSuchElementException") (by decide +kernel)) (vx_hat (B := py_th) (fun w h => G0.2.2.2.2 w (at_X11_level w h)) (by decide +kernel) (py_thw hw.1.2)) (by decide +kernel) hw.2.2.2.2.2.1.1 hw.2.2.2.2.2.1.2 hw.2.2.2.1 (by rw [G0.2.2.1]; exact hl.1) dX11_level_123 dX11_level_126 dX11_level_127 dX11_level_130 (fun x hx => (htb x hx).elim) (Nat.le_of_ble_eq_true rfl) (Nat.le_of_ble_eq_true rfl) (Nat.le_of_ble_eq_true rfl) (Nat.le_of_ble_eq_true rfl) hlk (fun t ha hz hk => ⟨(), trivial, ⟨rfl, va_P.kept hw.2.1 (fun k x hx => hk x.1 ((hw.2.1 k x hx).lt))⟩, Nat.le_trans hw.2.2.2.1.1 hz, fun q h1 h2 => (hk q (Nat.lt_of_lt_of_le h1 hw.2.2.2.1.1)).trans (hw.2.2.2.1.2.1 q h1 h2)⟩) hw.2.2.2.1.2.2 (Nat.le_refl 1) (Nat.le_refl 6)
  · skip
    have tc_48 := ti_eq c_48
    refine W.widen (k := 0) (n := 0) (Nat.le_of_ble_eq_true rfl) (Nat.le_of_ble_eq_true rfl) ?_
    refine vx_throw0 (own := RX11) (cls := "java/util/NoSuchElementException") (names := ["java/lang/RuntimeException", "java/lang/Exception"]) (ik := 136) (ic := 138) (A := va_A (va_pl L f) s.heap.size) G0.1 G0.2.1 hst G0.2.2.2.1 (by decide +kernel) (by decide +kernel) (G0.2.2.2.2 (Cond.classLink RX11 136 "java/util/NoSuchElementException") (by decide +kernel)) (G0.2.2.2.2 (Cond.initialized "java/util/NoSuchElementException") (by decide +kernel)) (vx_hat (B := py_th) (fun w h => G0.2.2.2.2 w (at_X11_level w h)) (by decide +kernel) (py_thw hw.1.2)) (by decide +kernel) hw.2.2.2.2.2.1.1 hw.2.2.2.2.2.1.2 hw.2.2.2.1 (by rw [G0.2.2.1]; exact hl.1) dX11_level_16 dX11_level_19 dX11_level_20 dX11_level_23 (fun x hx => (htb x hx).elim) (Nat.le_of_ble_eq_true rfl) (Nat.le_of_ble_eq_true rfl) (Nat.le_of_ble_eq_true rfl) (Nat.le_of_ble_eq_true rfl) hlk (fun t ha hz hk => ⟨(), trivial, ⟨rfl, va_P.kept hw.2.1 (fun k x hx => hk x.1 ((hw.2.1 k x hx).lt))⟩, Nat.le_trans hw.2.2.2.1.1 hz, fun q h1 h2 => (hk q (Nat.lt_of_lt_of_le h1 hw.2.2.2.1.1)).trans (hw.2.2.2.1.2.1 q h1 h2)⟩) hw.2.2.2.1.2.2 (Nat.le_refl 1) (Nat.le_refl 6)
def w_L_level : List Cond := .codeWith yL_level cL_level 5 (some .int) [(0, 10, 13, 13)] :: ([Cond.methodLink RL 7 yX11_level, Cond.instanceMethod yX11_level, Cond.selects RX11 yX11_level yX11_level, Cond.initialized RX11, Cond.classLink RL 13 "java/util/NoSuchElementException"] ++ w_X11_level)
theorem gg_L_level : GoodIn w_L_level w_X11_level := goodIn_sub (fun _ h => List.mem_cons_of_mem _ (List.mem_append_right _ h)) (by decide +kernel)
theorem g_L_level : GoodIn w_L_level (wsV RL 7 RX11 yX11_level w_X11_level) := goodIn_app (goodIn_of _ (by decide +kernel)) gg_L_level
set_option maxHeartbeats 4000000 in
set_option maxRecDepth 100000 in
theorem c_L_level (l : Launch) (hst : l.stackTraces = false) (E : py_E) (G : wf_G) (L : List Nat) (f : py_F) (sz : Nat) (x : Nat) (a b : Int32) (o : Nat) (hG : GT G) (hWF : WF E G L f) (Tx : G.1 x = 12) (To : G.1 o = 72) : Met l yL_level w_L_level ({ frames := 7, cells := 1, slots := 6, locals := 113 }) (py_Pc E [.ref x, .int a, .int b, .ref o] L f sz) (py_Qi E L f sz (fun _ L1 f1 => WF E G L1 f1 ∧ KP G [72] false f f1)) 1 6 (va_A (va_pl L f) sz) := by
  refine va_MetW (cc := cL_level) (maxL := 5) (ret := (some .int)) (by decide) rfl ?_
  intro p e s m args below meth c s₁ B hml hv
  obtain ⟨rfl, rfl, hw⟩ := py_start hv
  have G0 : CallFix p m c cL_level 5 s _ w_L_level RL := ⟨B.exec, B.bytes, hml, findClass_of_methodNamed B.named, atoms_spec (ws := w_L_level) B.pre⟩
  have hlk := B.notSynchronized
  have hr := B.returns
  have htb : c.exceptionTable.toList = [⟨0, 10, 13, 13⟩] := vx_table (x := yL_level) B (G0.2.2.2.2 _ List.mem_cons_self)
  have hl := lv_entry ([.ref x, .int a, .int b, .ref o]) (n := 5) (Nat.le_of_ble_eq_true rfl)
  rw [lg_entry_eq]
  generalize (lg_sl ([.ref x, .int a, .int b, .ref o]) ++ List.replicate (5 - (lg_sl ([.ref x, .int a, .int b, .ref o])).length) Slot.unset).toArray = ls at hl ⊢
  have hl : lv_has ls 5 [(0, .ref x), (1, .int a), (2, .int b), (3, .ref o)] := hl
  refine lv_aload_n G0.1 G0.2.1 dL_level_0 rfl (lv_at hl 3 rfl) ?_
  refine lv_iconst (v := 0) G0.1 G0.2.1 dL_level_1 (by decide) ?_
  refine lv_aload_n G0.1 G0.2.1 dL_level_2 rfl (lv_at hl 0 rfl) ?_
  refine lv_iload_n G0.1 G0.2.1 dL_level_3 rfl (lv_at hl 1 rfl) ?_
  refine lv_iload_n G0.1 G0.2.1 dL_level_4 rfl (lv_at hl 2 rfl) ?_
  obtain ⟨v1, v2, v3, hrx, -⟩ := wg_11 hWF Tx
  refine vx_calli (vx_runV (As := [.int a, .int b]) (rest := [.int 0, .ref o]) G0 (c_X11_level l hst E G L f s.heap.size x a b hG hWF Tx) (cwV 2 G0.2.2.2.2 g_L_level rfl rfl rfl (by decide +kernel) ⟨(Nat.le_of_ble_eq_true rfl), (Nat.le_of_ble_eq_true rfl)⟩) (py_preV hw (C := RX11) (T := TX11) (N := 16) rfl hrx) rfl rfl hl.1 rfl (lv_room (Nat.le_of_ble_eq_true rfl)) dL_level_5 ⟨(Nat.le_of_ble_eq_true rfl), (Nat.le_of_ble_eq_true rfl)⟩) hw.2.2.2.1 (fun q _ h => py_free hw q h) (py_free hw) (fun q _ h => py_free hw q h) (fun C ce q9 u t H1 locs1 ht hvm hpx hB hz hk hS1 hce hcv hcl => ?_) (fun r u t H1 locs1 ht hvm hp hB hz hk hS1 => ?_)
  · skip
    obtain ⟨rfl, hP1⟩ := hB
    rw [ht] at hP1
    have hw : py_W E (va_A (va_pl L f) s.heap.size) s L f H1 locs1 := ⟨hw.1, hP1, hw.2.2.1, hS1, hw.2.2.2.2⟩
    refine vx_catch (own := RL) (name := "java/util/NoSuchElementException") G0.2.2.2.1 [] ⟨0, 10, 13, 13⟩ [] htb (fun z hz => nomatch hz) (by decide) (by decide) (G0.2.2.2.2 (Cond.classLink RL 13 "java/util/NoSuchElementException") (by decide +kernel)) (py_thw hw.1.2 _ (List.mem_of_getElem? (i := 3) rfl)) hce hcv hcl ?_
    refine lv_astore (lv' := [(4, .ref q9), (0, .ref x), (1, .int a), (2, .int b), (3, .ref o)]) G0.1 G0.2.1 dL_level_13 hl (by decide) rfl (fun ls hl => ?_)
    refine lv_iconst (v := 1) G0.1 G0.2.1 dL_level_15 (by decide) ?_
    refine W.widen (k := 1) (n := 6) (Nat.le_of_ble_eq_true rfl) (Nat.le_of_ble_eq_true rfl) ?_
    exact py_iret G0 hr rfl hlk hw ⟨hWF, KP.refl⟩ dL_level_16
  · skip
    obtain ⟨e1, e2⟩ := hp
    obtain ⟨hP1, hD1⟩ := hB
    rw [ht, ← e1, ← e2] at hP1
    rw [← e1, ← e2] at hD1
    have hw2 : py_W E (va_A (va_pl L f) s.heap.size) s L f H1 locs1 := ⟨hw.1, hP1, hw.2.2.1, hS1, hw.2.2.2.2⟩
    refine lv_i2l (v := r.toInt64) G0.1 G0.2.1 dL_level_8 rfl ?_
    obtain ⟨g, hg⟩ := wf_j72 hWF To
    refine py_last G0 hw2 hg (show vp_in (0 : Int32) 1 from ti_in (by decide) (by decide)) dL_level_9 (fun f2 H2 locs2 h2 x2 hw3 => ?_)
    refine lv_goto (tgt := 17) G0.1 G0.2.1 dL_level_10 (by decide) ?_
    refine lv_iconst (v := 0) G0.1 G0.2.1 dL_level_17 (by decide) ?_
    refine W.widen (k := 1) (n := 6) (Nat.le_of_ble_eq_true rfl) (Nat.le_of_ble_eq_true rfl) ?_
    exact py_iret G0 hr rfl hlk hw3 ⟨wf_upd hWF h2 x2 (by rw [To]; exact ⟨_, rfl⟩), KP.refl.upd hWF x2 To (Or.inl (by decide))⟩ dL_level_18
