theorem dX4_faultOf_0 : decode cX4_faultOf 0 = .ok (.aload_n 1, 1) := by decide +kernel
theorem dX4_faultOf_1 : decode cX4_faultOf 1 = .ok (.iconst 0, 1) := by decide +kernel
theorem dX4_faultOf_2 : decode cX4_faultOf 2 = .ok (.putfield 18, 3) := by decide +kernel
theorem dX4_faultOf_5 : decode cX4_faultOf 5 = .ok (.aload_n 0, 1) := by decide +kernel
theorem dX4_faultOf_6 : decode cX4_faultOf 6 = .ok (.getfield 12, 3) := by decide +kernel
theorem dX4_faultOf_9 : decode cX4_faultOf 9 = .ok (.iconst 0, 1) := by decide +kernel
theorem dX4_faultOf_10 : decode cX4_faultOf 10 = .ok (.putfield 24, 3) := by decide +kernel
theorem dX4_faultOf_13 : decode cX4_faultOf 13 = .ok (.aload_n 0, 1) := by decide +kernel
theorem dX4_faultOf_14 : decode cX4_faultOf 14 = .ok (.aload_n 1, 1) := by decide +kernel
theorem dX4_faultOf_15 : decode cX4_faultOf 15 = .ok (.invokevirtual 27, 3) := by decide +kernel
theorem dX4_faultOf_18 : decode cX4_faultOf 18 = .ok (.istore_n 2, 1) := by decide +kernel
theorem dX4_faultOf_19 : decode cX4_faultOf 19 = .ok (.iconst 0, 1) := by decide +kernel
theorem dX4_faultOf_20 : decode cX4_faultOf 20 = .ok (.istore_n 3, 1) := by decide +kernel
theorem dX4_faultOf_21 : decode cX4_faultOf 21 = .ok (.iload_n 3, 1) := by decide +kernel
theorem dX4_faultOf_22 : decode cX4_faultOf 22 = .ok (.sipush 160, 3) := by decide +kernel
theorem dX4_faultOf_25 : decode cX4_faultOf 25 = .ok (.if_icmp .ge 28, 3) := by decide +kernel
theorem dX4_faultOf_28 : decode cX4_faultOf 28 = .ok (.iload_n 2, 1) := by decide +kernel
theorem dX4_faultOf_29 : decode cX4_faultOf 29 = .ok (.ifCond .eq 24, 3) := by decide +kernel
theorem dX4_faultOf_32 : decode cX4_faultOf 32 = .ok (.aload_n 1, 1) := by decide +kernel
theorem dX4_faultOf_33 : decode cX4_faultOf 33 = .ok (.bipush 59, 2) := by decide +kernel
theorem dX4_faultOf_35 : decode cX4_faultOf 35 = .ok (.invokevirtual 31, 3) := by decide +kernel
theorem dX4_faultOf_38 : decode cX4_faultOf 38 = .ok (.ifCond .eq 15, 3) := by decide +kernel
theorem dX4_faultOf_41 : decode cX4_faultOf 41 = .ok (.aload_n 0, 1) := by decide +kernel
theorem dX4_faultOf_42 : decode cX4_faultOf 42 = .ok (.aload_n 1, 1) := by decide +kernel
theorem dX4_faultOf_43 : decode cX4_faultOf 43 = .ok (.invokevirtual 27, 3) := by decide +kernel
theorem dX4_faultOf_46 : decode cX4_faultOf 46 = .ok (.istore_n 2, 1) := by decide +kernel
theorem dX4_faultOf_47 : decode cX4_faultOf 47 = .ok (.iinc 3 1, 3) := by decide +kernel
theorem dX4_faultOf_50 : decode cX4_faultOf 50 = .ok (.goto (-29), 3) := by decide +kernel
theorem dX4_faultOf_53 : decode cX4_faultOf 53 = .ok (.iload_n 2, 1) := by decide +kernel
theorem dX4_faultOf_54 : decode cX4_faultOf 54 = .ok (.ifCond .eq 14, 3) := by decide +kernel
theorem dX4_faultOf_57 : decode cX4_faultOf 57 = .ok (.aload_n 1, 1) := by decide +kernel
theorem dX4_faultOf_58 : decode cX4_faultOf 58 = .ok (.invokevirtual 35, 3) := by decide +kernel
theorem dX4_faultOf_61 : decode cX4_faultOf 61 = .ok (.ifCond .ne 7, 3) := by decide +kernel
theorem dX4_faultOf_64 : decode cX4_faultOf 64 = .ok (.iconst (-1), 1) := by decide +kernel
theorem dX4_faultOf_65 : decode cX4_faultOf 65 = .ok (.goto 7, 3) := by decide +kernel
theorem dX4_faultOf_68 : decode cX4_faultOf 68 = .ok (.aload_n 1, 1) := by decide +kernel
theorem dX4_faultOf_69 : decode cX4_faultOf 69 = .ok (.getfield 18, 3) := by decide +kernel
theorem dX4_faultOf_72 : decode cX4_faultOf 72 = .ok (.ireturn, 1) := by decide +kernel
theorem dX4_readClause_0 : decode cX4_readClause 0 = .ok (.aload_n 1, 1) := by decide +kernel
theorem dX4_readClause_1 : decode cX4_readClause 1 = .ok (.bipush 121, 2) := by decide +kernel
theorem dX4_readClause_3 : decode cX4_readClause 3 = .ok (.invokevirtual 31, 3) := by decide +kernel
theorem dX4_readClause_6 : decode cX4_readClause 6 = .ok (.ifCond .eq 12, 3) := by decide +kernel
theorem dX4_readClause_9 : decode cX4_readClause 9 = .ok (.aload_n 1, 1) := by decide +kernel
theorem dX4_readClause_10 : decode cX4_readClause 10 = .ok (.bipush 58, 2) := by decide +kernel
theorem dX4_readClause_12 : decode cX4_readClause 12 = .ok (.invokevirtual 31, 3) := by decide +kernel
theorem dX4_readClause_15 : decode cX4_readClause 15 = .ok (.ifCond .ne 5, 3) := by decide +kernel
theorem dX4_readClause_18 : decode cX4_readClause 18 = .ok (.iconst 0, 1) := by decide +kernel
theorem dX4_readClause_19 : decode cX4_readClause 19 = .ok (.ireturn, 1) := by decide +kernel
theorem dX4_readClause_20 : decode cX4_readClause 20 = .ok (.aload_n 1, 1) := by decide +kernel
theorem dX4_readClause_21 : decode cX4_readClause 21 = .ok (.invokevirtual 35, 3) := by decide +kernel
theorem dX4_readClause_24 : decode cX4_readClause 24 = .ok (.istore_n 2, 1) := by decide +kernel
theorem dX4_readClause_25 : decode cX4_readClause 25 = .ok (.iload_n 2, 1) := by decide +kernel
theorem dX4_readClause_26 : decode cX4_readClause 26 = .ok (.bipush 33, 2) := by decide +kernel
theorem dX4_readClause_28 : decode cX4_readClause 28 = .ok (.if_icmp .eq 13, 3) := by decide +kernel
theorem dX4_readClause_31 : decode cX4_readClause 31 = .ok (.iload_n 2, 1) := by decide +kernel
theorem dX4_readClause_32 : decode cX4_readClause 32 = .ok (.bipush 40, 2) := by decide +kernel
theorem dX4_readClause_34 : decode cX4_readClause 34 = .ok (.if_icmp .eq 7, 3) := by decide +kernel
theorem dX4_readClause_37 : decode cX4_readClause 37 = .ok (.iconst 1, 1) := by decide +kernel
theorem dX4_readClause_38 : decode cX4_readClause 38 = .ok (.goto 4, 3) := by decide +kernel
theorem dX4_readClause_41 : decode cX4_readClause 41 = .ok (.iconst 0, 1) := by decide +kernel
theorem dX4_readClause_42 : decode cX4_readClause 42 = .ok (.istore_n 3, 1) := by decide +kernel
theorem dX4_readClause_43 : decode cX4_readClause 43 = .ok (.iload_n 3, 1) := by decide +kernel
theorem dX4_readClause_44 : decode cX4_readClause 44 = .ok (.ifCond .eq 16, 3) := by decide +kernel
theorem dX4_readClause_47 : decode cX4_readClause 47 = .ok (.aload_n 0, 1) := by decide +kernel
theorem dX4_readClause_48 : decode cX4_readClause 48 = .ok (.aload_n 1, 1) := by decide +kernel
theorem dX4_readClause_49 : decode cX4_readClause 49 = .ok (.iconst 2, 1) := by decide +kernel
theorem dX4_readClause_50 : decode cX4_readClause 50 = .ok (.iconst 0, 1) := by decide +kernel
theorem dX4_readClause_51 : decode cX4_readClause 51 = .ok (.iconst 0, 1) := by decide +kernel
theorem dX4_readClause_52 : decode cX4_readClause 52 = .ok (.invokevirtual 39, 3) := by decide +kernel
theorem dX4_readClause_55 : decode cX4_readClause 55 = .ok (.ifCond .ne 5, 3) := by decide +kernel
theorem dX4_readClause_58 : decode cX4_readClause 58 = .ok (.iconst 0, 1) := by decide +kernel
theorem dX4_readClause_59 : decode cX4_readClause 59 = .ok (.ireturn, 1) := by decide +kernel
theorem dX4_readClause_60 : decode cX4_readClause 60 = .ok (.iload_n 3, 1) := by decide +kernel
theorem dX4_readClause_61 : decode cX4_readClause 61 = .ok (.ifCond .eq 25, 3) := by decide +kernel
theorem dX4_readClause_64 : decode cX4_readClause 64 = .ok (.aload_n 1, 1) := by decide +kernel
theorem dX4_readClause_65 : decode cX4_readClause 65 = .ok (.invokevirtual 35, 3) := by decide +kernel
theorem dX4_readClause_68 : decode cX4_readClause 68 = .ok (.invokestatic 43, 3) := by decide +kernel
theorem dX4_readClause_71 : decode cX4_readClause 71 = .ok (.ifCond .ne 15, 3) := by decide +kernel
theorem dX4_readClause_74 : decode cX4_readClause 74 = .ok (.aload_n 0, 1) := by decide +kernel
theorem dX4_readClause_75 : decode cX4_readClause 75 = .ok (.getfield 12, 3) := by decide +kernel
theorem dX4_readClause_78 : decode cX4_readClause 78 = .ok (.bipush 59, 2) := by decide +kernel
theorem dX4_readClause_80 : decode cX4_readClause 80 = .ok (.iconst 0, 1) := by decide +kernel
theorem dX4_readClause_81 : decode cX4_readClause 81 = .ok (.invokevirtual 46, 3) := by decide +kernel
theorem dX4_readClause_84 : decode cX4_readClause 84 = .ok (.iconst 1, 1) := by decide +kernel
theorem dX4_readClause_85 : decode cX4_readClause 85 = .ok (.ireturn, 1) := by decide +kernel
theorem dX4_readClause_86 : decode cX4_readClause 86 = .ok (.aload_n 0, 1) := by decide +kernel
theorem dX4_readClause_87 : decode cX4_readClause 87 = .ok (.aload_n 1, 1) := by decide +kernel
theorem dX4_readClause_88 : decode cX4_readClause 88 = .ok (.iconst 0, 1) := by decide +kernel
theorem dX4_readClause_89 : decode cX4_readClause 89 = .ok (.iconst 0, 1) := by decide +kernel
theorem dX4_readClause_90 : decode cX4_readClause 90 = .ok (.iload_n 3, 1) := by decide +kernel
theorem dX4_readClause_91 : decode cX4_readClause 91 = .ok (.invokevirtual 39, 3) := by decide +kernel
theorem dX4_readClause_94 : decode cX4_readClause 94 = .ok (.ifCond .eq 12, 3) := by decide +kernel
theorem dX4_readClause_97 : decode cX4_readClause 97 = .ok (.aload_n 1, 1) := by decide +kernel
theorem dX4_readClause_98 : decode cX4_readClause 98 = .ok (.bipush 63, 2) := by decide +kernel
theorem dX4_readClause_100 : decode cX4_readClause 100 = .ok (.invokevirtual 31, 3) := by decide +kernel
theorem dX4_readClause_103 : decode cX4_readClause 103 = .ok (.ifCond .ne 5, 3) := by decide +kernel
theorem dX4_readClause_106 : decode cX4_readClause 106 = .ok (.iconst 0, 1) := by decide +kernel
theorem dX4_readClause_107 : decode cX4_readClause 107 = .ok (.ireturn, 1) := by decide +kernel
theorem dX4_readClause_108 : decode cX4_readClause 108 = .ok (.aload_n 0, 1) := by decide +kernel
theorem dX4_readClause_109 : decode cX4_readClause 109 = .ok (.getfield 12, 3) := by decide +kernel
theorem dX4_readClause_112 : decode cX4_readClause 112 = .ok (.getfield 24, 3) := by decide +kernel
theorem dX4_readClause_115 : decode cX4_readClause 115 = .ok (.istore 4, 2) := by decide +kernel
theorem dX4_readClause_117 : decode cX4_readClause 117 = .ok (.aload_n 0, 1) := by decide +kernel
theorem dX4_readClause_118 : decode cX4_readClause 118 = .ok (.getfield 12, 3) := by decide +kernel
theorem dX4_readClause_121 : decode cX4_readClause 121 = .ok (.bipush 63, 2) := by decide +kernel
theorem dX4_readClause_123 : decode cX4_readClause 123 = .ok (.iconst 0, 1) := by decide +kernel
theorem dX4_readClause_124 : decode cX4_readClause 124 = .ok (.invokevirtual 46, 3) := by decide +kernel
theorem dX4_readClause_127 : decode cX4_readClause 127 = .ok (.aload_n 0, 1) := by decide +kernel
theorem dX4_readClause_128 : decode cX4_readClause 128 = .ok (.aload_n 1, 1) := by decide +kernel
theorem dX4_readClause_129 : decode cX4_readClause 129 = .ok (.iconst 2, 1) := by decide +kernel
theorem dX4_readClause_130 : decode cX4_readClause 130 = .ok (.iconst 0, 1) := by decide +kernel
theorem dX4_readClause_131 : decode cX4_readClause 131 = .ok (.iconst 0, 1) := by decide +kernel
theorem dX4_readClause_132 : decode cX4_readClause 132 = .ok (.invokevirtual 39, 3) := by decide +kernel
theorem dX4_readClause_135 : decode cX4_readClause 135 = .ok (.ifCond .ne 5, 3) := by decide +kernel
theorem dX4_readClause_138 : decode cX4_readClause 138 = .ok (.iconst 0, 1) := by decide +kernel
theorem dX4_readClause_139 : decode cX4_readClause 139 = .ok (.ireturn, 1) := by decide +kernel
theorem dX4_readClause_140 : decode cX4_readClause 140 = .ok (.aload_n 0, 1) := by decide +kernel
theorem dX4_readClause_141 : decode cX4_readClause 141 = .ok (.getfield 12, 3) := by decide +kernel
theorem dX4_readClause_144 : decode cX4_readClause 144 = .ok (.bipush 59, 2) := by decide +kernel
theorem dX4_readClause_146 : decode cX4_readClause 146 = .ok (.iconst 0, 1) := by decide +kernel
theorem dX4_readClause_147 : decode cX4_readClause 147 = .ok (.invokevirtual 46, 3) := by decide +kernel
theorem dX4_readClause_150 : decode cX4_readClause 150 = .ok (.aload_n 0, 1) := by decide +kernel
theorem dX4_readClause_151 : decode cX4_readClause 151 = .ok (.getfield 12, 3) := by decide +kernel
theorem dX4_readClause_154 : decode cX4_readClause 154 = .ok (.iload 4, 2) := by decide +kernel
theorem dX4_readClause_156 : decode cX4_readClause 156 = .ok (.invokevirtual 50, 3) := by decide +kernel
theorem dX4_readClause_159 : decode cX4_readClause 159 = .ok (.iconst 1, 1) := by decide +kernel
theorem dX4_readClause_160 : decode cX4_readClause 160 = .ok (.ireturn, 1) := by decide +kernel
def w_X4_readClause : List Cond := .code yX4_readClause cX4_readClause 5 (some .boolean) :: ([Cond.methodLink RX4 31 yX8_take, Cond.instanceMethod yX8_take, Cond.selects RX8 yX8_take yX8_take, Cond.initialized RX8, Cond.methodLink RX4 35 yX8_next, Cond.instanceMethod yX8_next, Cond.selects RX8 yX8_next yX8_next, Cond.methodLink RX4 39 yX4_readChain, Cond.instanceMethod yX4_readChain, Cond.selects RX4 yX4_readChain yX4_readChain, Cond.initialized RX4, Cond.fieldLink RX4 12 "HeadYear$LawReader" "draft" "LHeadYear$Law;", Cond.fieldLink RX4 24 "HeadYear$Law" "length" "I", Cond.methodLink RX4 46 yX3_add, Cond.instanceMethod yX3_add, Cond.selects RX3 yX3_add yX3_add, Cond.initialized RX3, Cond.methodLink RX4 50 yX3_aimHere, Cond.instanceMethod yX3_aimHere, Cond.selects RX3 yX3_aimHere yX3_aimHere, Cond.methodLink RX4 43 yX4_isComparison, Cond.static yX4_isComparison] ++ (u_ws RX4 TX4 1 ++ (u_ws RX3 TX3 3 ++ (w_X8_take ++ (w_X8_next ++ (w_X4_readChain ++ (w_X3_add ++ (w_X3_aimHere ++ (w_X4_isComparison ++ ([]))))))))))
theorem in_X4_readClause_X4 : ∀ w ∈ u_ws RX4 TX4 1, w ∈ w_X4_readClause := fun _ h => List.mem_cons_of_mem _ (List.mem_append_right _ (List.mem_append_left _ h))
theorem in_X4_readClause_X3 : ∀ w ∈ u_ws RX3 TX3 3, w ∈ w_X4_readClause := fun _ h => List.mem_cons_of_mem _ (List.mem_append_right _ (List.mem_append_right _ (List.mem_append_left _ h)))
theorem gg_X4_readClause_X8_take : GoodIn w_X4_readClause w_X8_take := goodIn_sub (fun _ h => List.mem_cons_of_mem _ (List.mem_append_right _ (List.mem_append_right _ (List.mem_append_right _ (List.mem_append_left _ h))))) (by decide +kernel)
theorem gg_X4_readClause_X8_next : GoodIn w_X4_readClause w_X8_next := goodIn_sub (fun _ h => List.mem_cons_of_mem _ (List.mem_append_right _ (List.mem_append_right _ (List.mem_append_right _ (List.mem_append_right _ (List.mem_append_left _ h)))))) (by decide +kernel)
theorem gg_X4_readClause_X4_readChain : GoodIn w_X4_readClause w_X4_readChain := goodIn_sub (fun _ h => List.mem_cons_of_mem _ (List.mem_append_right _ (List.mem_append_right _ (List.mem_append_right _ (List.mem_append_right _ (List.mem_append_right _ (List.mem_append_left _ h))))))) (by decide +kernel)
theorem gg_X4_readClause_X3_add : GoodIn w_X4_readClause w_X3_add := goodIn_sub (fun _ h => List.mem_cons_of_mem _ (List.mem_append_right _ (List.mem_append_right _ (List.mem_append_right _ (List.mem_append_right _ (List.mem_append_right _ (List.mem_append_right _ (List.mem_append_left _ h)))))))) (by decide +kernel)
theorem gg_X4_readClause_X3_aimHere : GoodIn w_X4_readClause w_X3_aimHere := goodIn_sub (fun _ h => List.mem_cons_of_mem _ (List.mem_append_right _ (List.mem_append_right _ (List.mem_append_right _ (List.mem_append_right _ (List.mem_append_right _ (List.mem_append_right _ (List.mem_append_right _ (List.mem_append_left _ h))))))))) (by decide +kernel)
theorem gg_X4_readClause_X4_isComparison : GoodIn w_X4_readClause w_X4_isComparison := goodIn_sub (fun _ h => List.mem_cons_of_mem _ (List.mem_append_right _ (List.mem_append_right _ (List.mem_append_right _ (List.mem_append_right _ (List.mem_append_right _ (List.mem_append_right _ (List.mem_append_right _ (List.mem_append_right _ (List.mem_append_left _ h)))))))))) (by decide +kernel)
theorem g_X4_readClause_X3_add_46 : GoodIn w_X4_readClause (wsV RX4 46 RX3 yX3_add w_X3_add) := goodIn_app (goodIn_of _ (by decide +kernel)) gg_X4_readClause_X3_add
theorem g_X4_readClause_X3_aimHere_50 : GoodIn w_X4_readClause (wsV RX4 50 RX3 yX3_aimHere w_X3_aimHere) := goodIn_app (goodIn_of _ (by decide +kernel)) gg_X4_readClause_X3_aimHere
theorem g_X4_readClause_X4_isComparison_43 : GoodIn w_X4_readClause (va_wsS RX4 43 yX4_isComparison w_X4_isComparison) := goodIn_app (goodIn_of _ (by decide +kernel)) gg_X4_readClause_X4_isComparison
theorem g_X4_readClause_X4_readChain_39 : GoodIn w_X4_readClause (wsV RX4 39 RX4 yX4_readChain w_X4_readChain) := goodIn_app (goodIn_of _ (by decide +kernel)) gg_X4_readClause_X4_readChain
theorem g_X4_readClause_X8_next_35 : GoodIn w_X4_readClause (wsV RX4 35 RX8 yX8_next w_X8_next) := goodIn_app (goodIn_of _ (by decide +kernel)) gg_X4_readClause_X8_next
theorem g_X4_readClause_X8_take_31 : GoodIn w_X4_readClause (wsV RX4 31 RX8 yX8_take w_X8_take) := goodIn_app (goodIn_of _ (by decide +kernel)) gg_X4_readClause_X8_take
set_option maxHeartbeats 4000000 in
set_option maxRecDepth 100000 in
theorem c_X4_readClause (l : Launch) (E : py_E) (G : wf_G) (L : List Nat) (f : py_F) (sz : Nat) (h : Nat) (t : Nat) (hG : GT G) (hWF : WF E G L f) (Th : G.1 h = 5) (Tt : G.1 t = 9) : Met l yX4_readClause w_X4_readClause ({ frames := 60, cells := 0, slots := 0, locals := 3268 }) (py_Pc E [.ref h, .ref t] L f sz) (py_Qi E L f sz (fun r L1 f1 => (0 ≤ r.toInt ∧ r.toInt ≤ 1) ∧ WF E G L1 f1 ∧ RP E G f f1 ∧ KP G [9, 4, 20] false f f1)) 0 0 (va_A (va_pl L f) sz) := by
  refine Met.ofW (cc := cX4_readClause) (maxL := 5) (ret := (some .boolean)) (by decide) rfl ?_
  intro p e s m args below meth c s₁ B hml hv
  obtain ⟨rfl, rfl, hw⟩ := py_start hv
  have G0 : CallFix p m c cX4_readClause 5 s _ w_X4_readClause RX4 := ⟨B.exec, B.bytes, hml, findClass_of_methodNamed B.named, atoms_spec (ws := w_X4_readClause) B.pre⟩
  have hr := B.returns
  have hlk := B.notSynchronized
  have kcm1 : (-1 : Int32).toInt = -1 := rfl
  have kc0 : (0 : Int32).toInt = 0 := rfl
  have kc1 : (1 : Int32).toInt = 1 := rfl
  have kc2 : (2 : Int32).toInt = 2 := rfl
  have kc33 : (33 : Int32).toInt = 33 := rfl
  have kc40 : (40 : Int32).toInt = 40 := rfl
  have kc58 : (58 : Int32).toInt = 58 := rfl
  have kc59 : (59 : Int32).toInt = 59 := rfl
  have kc63 : (63 : Int32).toInt = 63 := rfl
  have kc121 : (121 : Int32).toInt = 121 := rfl
  have hl := lv_entry ([.ref h, .ref t]) (n := 5) (Nat.le_of_ble_eq_true rfl)
  rw [lg_entry_eq]
  generalize (lg_sl ([.ref h, .ref t]) ++ List.replicate (5 - (lg_sl ([.ref h, .ref t])).length) Slot.unset).toArray = ls at hl ⊢
  have hl : lv_has ls 5 [(0, .ref h), (1, .ref t)] := hl
  have hRP : RP E G f f := RP.refl
  have hKP : KP G [9, 4, 20] false f f := KP.refl
  refine lv_aload_n G0.1 G0.2.1 dX4_readClause_0 rfl (lv_at hl 1 rfl) ?_
  refine lv_bipush (v := 121) G0.1 G0.2.1 dX4_readClause_1 (by decide) ?_
  have t_1 := wt_8 hG Tt
  obtain ⟨v_2, v_3, v_4, hr_7, b_5, b_6⟩ := wg_8 hWF Tt
  have bv_4 := wf_free v_4
  have tq_8 := tp_eq hr_7
  refine py_calli hw (va_runV (As := [.int 121]) (rest := []) G0 (c_X8_take l E G L f s.heap.size t 121 hG hWF Tt ⟨by omega, by omega⟩) (cwV 1 G0.2.2.2.2 g_X4_readClause_X8_take_31 rfl rfl rfl (by decide +kernel) ⟨(Nat.le_of_ble_eq_true rfl), (Nat.le_of_ble_eq_true rfl)⟩) (py_preV hw (C := RX8) (T := TX8) (N := 4) rfl hr_7) rfl rfl hl.1 rfl (lv_room (Nat.le_of_ble_eq_true rfl)) dX4_readClause_3 ⟨(Nat.le_of_ble_eq_true rfl), (Nat.le_of_ble_eq_true rfl)⟩) (fun r_13 L_9 f_10 H_11 locs hp_12 hw => ?_)
  obtain ⟨b_14, hWF, hq_15, kp_16⟩ := hp_12
  have hRP := hRP.trans hq_15
  have hKP := hKP.trans kp_16 (by decide) (by decide)
  refine lv_if_eq (tgt := 18) G0.1 G0.2.1 dX4_readClause_6 (by decide) (fun c_17 => ?_) (fun c_17 => ?_)
  · skip
    have tc_17 := ti_eq c_17
    refine lv_iconst (v := 0) G0.1 G0.2.1 dX4_readClause_18 (by decide) ?_
    exact py_iret G0 hr rfl hlk hw ⟨⟨by omega, by omega⟩, hWF, hRP, hKP⟩ dX4_readClause_19
  · skip
    have tc_17 := ti_ne c_17
    refine lv_aload_n G0.1 G0.2.1 dX4_readClause_9 rfl (lv_at hl 1 rfl) ?_
    refine lv_bipush (v := 58) G0.1 G0.2.1 dX4_readClause_10 (by decide) ?_
    obtain ⟨v_18, v_19, v_20, hr_23, b_21, b_22⟩ := wg_8 hWF Tt
    have bv_20 := wf_free v_20
    have tq_24 := tp_eq hr_23
    refine py_calli hw (va_runV (As := [.int 58]) (rest := []) G0 (c_X8_take l E G L_9 f_10 H_11.size t 58 hG hWF Tt ⟨by omega, by omega⟩) (cwV 1 G0.2.2.2.2 g_X4_readClause_X8_take_31 rfl rfl rfl (by decide +kernel) ⟨(Nat.le_of_ble_eq_true rfl), (Nat.le_of_ble_eq_true rfl)⟩) (py_preV hw (C := RX8) (T := TX8) (N := 4) rfl hr_23) rfl rfl hl.1 rfl (lv_room (Nat.le_of_ble_eq_true rfl)) dX4_readClause_12 ⟨(Nat.le_of_ble_eq_true rfl), (Nat.le_of_ble_eq_true rfl)⟩) (fun r_29 L_25 f_26 H_27 locs hp_28 hw => ?_)
    obtain ⟨b_30, hWF, hq_31, kp_32⟩ := hp_28
    have hRP := hRP.trans hq_31
    have hKP := hKP.trans kp_32 (by decide) (by decide)
    refine lv_if_ne (tgt := 20) G0.1 G0.2.1 dX4_readClause_15 (by decide) (fun c_33 => ?_) (fun c_33 => ?_)
    · skip
      have tc_33 := ti_ne c_33
      refine lv_aload_n G0.1 G0.2.1 dX4_readClause_20 rfl (lv_at hl 1 rfl) ?_
      obtain ⟨v_34, v_35, v_36, hr_39, b_37, b_38⟩ := wg_8 hWF Tt
      have bv_36 := wf_free v_36
      have tq_40 := tp_eq hr_39
      refine py_calli hw (va_runV (As := []) (rest := []) G0 (c_X8_next l E G L_25 f_26 H_27.size t hG hWF Tt) (cwV 0 G0.2.2.2.2 g_X4_readClause_X8_next_35 rfl rfl rfl (by decide +kernel) ⟨(Nat.le_of_ble_eq_true rfl), (Nat.le_of_ble_eq_true rfl)⟩) (py_preV hw (C := RX8) (T := TX8) (N := 4) rfl hr_39) rfl rfl hl.1 rfl (lv_room (Nat.le_of_ble_eq_true rfl)) dX4_readClause_21 ⟨(Nat.le_of_ble_eq_true rfl), (Nat.le_of_ble_eq_true rfl)⟩) (fun r_45 L_41 f_42 H_43 locs hp_44 hw => ?_)
      obtain ⟨en_46, hWF, hq_47, kp_48⟩ := hp_44
      have hRP := hRP.trans hq_47
      have hKP := hKP.trans kp_48 (by decide) (by decide)
      have br_45 := wf_free r_45
      refine lv_istore_n (lv' := [(2, .int r_45), (0, .ref h), (1, .ref t)]) G0.1 G0.2.1 dX4_readClause_24 rfl hl (by decide) rfl (fun ls hl => ?_)
      refine lv_iload_n G0.1 G0.2.1 dX4_readClause_25 rfl (lv_at hl 0 rfl) ?_
      refine lv_bipush (v := 33) G0.1 G0.2.1 dX4_readClause_26 (by decide) ?_
      have jn_42 : ∀ (v_49 : Int32) (H_j42 : Heap) (locs : List Loc) (ls : Array Slot), (0 ≤ v_49.toInt ∧ v_49.toInt ≤ 1) → py_W E (va_A (va_pl L f) s.heap.size) s L_41 f_42 H_j42 locs → lv_has ls 5 [(2, .int r_45), (0, .ref h), (1, .ref t)] → W p l e (headSpec w_X4_readClause ({ frames := 60, cells := 0, slots := 0, locals := 3268 })).room s m ([.ref h, .ref t] : List Value).toArray below meth c H_j42 locs 0 0 (MQ below (py_Qi E L f s.heap.size (fun r L1 f1 => (0 ≤ r.toInt ∧ r.toInt ≤ 1) ∧ WF E G L1 f1 ∧ RP E G f f1 ∧ KP G [9, 4, 20] false f f1)) ([.ref h, .ref t] : List Value).toArray s 0 0 (va_A (va_pl L f) s.heap.size)) (F0 m 42 ls [.int v_49]) := by
        intro v_49 H_j42 locs ls bv_49 hw hl
        refine lv_istore_n (lv' := [(3, .int v_49), (2, .int r_45), (0, .ref h), (1, .ref t)]) G0.1 G0.2.1 dX4_readClause_42 rfl hl (by decide) rfl (fun ls hl => ?_)
        refine lv_iload_n G0.1 G0.2.1 dX4_readClause_43 rfl (lv_at hl 0 rfl) ?_
        refine lv_if_eq (tgt := 60) G0.1 G0.2.1 dX4_readClause_44 (by decide) (fun c_50 => ?_) (fun c_50 => ?_)
        · skip
          have tc_50 := ti_eq c_50
          refine lv_iload_n G0.1 G0.2.1 dX4_readClause_60 rfl (lv_at hl 0 rfl) ?_
          refine lv_if_eq (tgt := 86) G0.1 G0.2.1 dX4_readClause_61 (by decide) (fun c_51 => ?_) (fun c_51 => ?_)
          · skip
            have tc_51 := ti_eq c_51
            refine lv_aload_n G0.1 G0.2.1 dX4_readClause_86 rfl (lv_at hl 2 rfl) ?_
            refine lv_aload_n G0.1 G0.2.1 dX4_readClause_87 rfl (lv_at hl 3 rfl) ?_
            refine lv_iconst (v := 0) G0.1 G0.2.1 dX4_readClause_88 (by decide) ?_
            refine lv_iconst (v := 0) G0.1 G0.2.1 dX4_readClause_89 (by decide) ?_
            refine lv_iload_n G0.1 G0.2.1 dX4_readClause_90 rfl (lv_at hl 0 rfl) ?_
            obtain ⟨r_52, hr_54, ty_53⟩ := wg_4 hWF Th
            refine py_calli hw (va_runV (As := [.ref t, .int 0, .int 0, .int v_49]) (rest := []) G0 (rd_chain0 l E G hG L_41 f_42 H_j42.size h t 0 v_49 hWF Th Tt ⟨by omega, by omega⟩ (show 0 ≤ (0 : Int32).toInt ∧ (0 : Int32).toInt ≤ 6 by omega)) (cwV 4 G0.2.2.2.2 g_X4_readClause_X4_readChain_39 rfl rfl rfl (by decide +kernel) ⟨(Nat.le_of_ble_eq_true rfl), (Nat.le_of_ble_eq_true rfl)⟩) (py_preV hw (C := RX4) (T := TX4) (N := 1) rfl hr_54) rfl rfl hl.1 rfl (lv_room (Nat.le_of_ble_eq_true rfl)) dX4_readClause_91 ⟨(Nat.le_of_ble_eq_true rfl), (Nat.le_of_ble_eq_true rfl)⟩) (fun r_59 L_55 f_56 H_57 locs hp_58 hw => ?_)
            obtain ⟨b_60, hWF, hq_61, kp_62⟩ := hp_58
            have hRP := hRP.trans hq_61
            have hKP := hKP.trans kp_62 (by decide) (by decide)
            have hr_54 := kp_at kp_62 hWF Th (by decide) (by decide) (by decide) hr_54
            refine lv_if_eq (tgt := 106) G0.1 G0.2.1 dX4_readClause_94 (by decide) (fun c_63 => ?_) (fun c_63 => ?_)
            · skip
              have tc_63 := ti_eq c_63
              refine lv_iconst (v := 0) G0.1 G0.2.1 dX4_readClause_106 (by decide) ?_
              exact py_iret G0 hr rfl hlk hw ⟨⟨by omega, by omega⟩, hWF, hRP, hKP⟩ dX4_readClause_107
            · skip
              have tc_63 := ti_ne c_63
              refine lv_aload_n G0.1 G0.2.1 dX4_readClause_97 rfl (lv_at hl 3 rfl) ?_
              refine lv_bipush (v := 63) G0.1 G0.2.1 dX4_readClause_98 (by decide) ?_
              obtain ⟨v_64, v_65, v_66, hr_69, b_67, b_68⟩ := wg_8 hWF Tt
              have bv_66 := wf_free v_66
              have tq_70 := tp_eq hr_69
              refine py_calli hw (va_runV (As := [.int 63]) (rest := []) G0 (c_X8_take l E G L_55 f_56 H_57.size t 63 hG hWF Tt ⟨by omega, by omega⟩) (cwV 1 G0.2.2.2.2 g_X4_readClause_X8_take_31 rfl rfl rfl (by decide +kernel) ⟨(Nat.le_of_ble_eq_true rfl), (Nat.le_of_ble_eq_true rfl)⟩) (py_preV hw (C := RX8) (T := TX8) (N := 4) rfl hr_69) rfl rfl hl.1 rfl (lv_room (Nat.le_of_ble_eq_true rfl)) dX4_readClause_100 ⟨(Nat.le_of_ble_eq_true rfl), (Nat.le_of_ble_eq_true rfl)⟩) (fun r_75 L_71 f_72 H_73 locs hp_74 hw => ?_)
              obtain ⟨b_76, hWF, hq_77, kp_78⟩ := hp_74
              have hRP := hRP.trans hq_77
              have hKP := hKP.trans kp_78 (by decide) (by decide)
              have hr_54 := kp_at kp_78 hWF Th (by decide) (by decide) (by decide) hr_54
              refine lv_if_ne (tgt := 108) G0.1 G0.2.1 dX4_readClause_103 (by decide) (fun c_79 => ?_) (fun c_79 => ?_)
              · skip
                have tc_79 := ti_ne c_79
                refine lv_aload_n G0.1 G0.2.1 dX4_readClause_108 rfl (lv_at hl 2 rfl) ?_
                refine py_get (C := RX4) (T := TX4) (N := 1) (k := 0) (v := .ref r_52) G0 hw in_X4_readClause_X4 rfl hr_54 (by decide) (by decide +kernel) rfl dX4_readClause_109 ?_
                obtain ⟨t_80, t_81⟩ := wt_3 hG ty_53
                obtain ⟨v_82, hr_84, b_83⟩ := wg_3 hWF ty_53
                refine py_get (C := RX3) (T := TX3) (N := 3) (k := 2) (v := .int v_82) G0 hw in_X4_readClause_X3 rfl hr_84 (by decide) (by decide +kernel) rfl dX4_readClause_112 ?_
                refine lv_istore (lv' := [(4, .int v_82), (3, .int v_49), (2, .int r_45), (0, .ref h), (1, .ref t)]) G0.1 G0.2.1 dX4_readClause_115 hl (by decide) rfl (fun ls hl => ?_)
                refine lv_aload_n G0.1 G0.2.1 dX4_readClause_117 rfl (lv_at hl 3 rfl) ?_
                refine py_get (C := RX4) (T := TX4) (N := 1) (k := 0) (v := .ref r_52) G0 hw in_X4_readClause_X4 rfl hr_54 (by decide) (by decide +kernel) rfl dX4_readClause_118 ?_
                refine lv_bipush (v := 63) G0.1 G0.2.1 dX4_readClause_121 (by decide) ?_
                refine lv_iconst (v := 0) G0.1 G0.2.1 dX4_readClause_123 (by decide) ?_
                refine py_callv hw (va_runV (As := [.int 63, .int 0]) (rest := []) G0 (c_X3_add l E G L_71 f_72 H_73.size r_52 63 0 hG hWF ty_53) (cwV 2 G0.2.2.2.2 g_X4_readClause_X3_add_46 rfl rfl rfl (by decide +kernel) ⟨(Nat.le_of_ble_eq_true rfl), (Nat.le_of_ble_eq_true rfl)⟩) (py_preV hw (C := RX3) (T := TX3) (N := 3) rfl hr_84) rfl rfl hl.1 rfl (lv_room (Nat.le_of_ble_eq_true rfl)) dX4_readClause_124 ⟨(Nat.le_of_ble_eq_true rfl), (Nat.le_of_ble_eq_true rfl)⟩) (fun L_85 f_86 H_87 locs hp_88 hw => ?_)
                obtain ⟨hWF, hq_90, kp_91⟩ := hp_88
                have hRP := hRP.trans hq_90
                have hKP := hKP.trans kp_91 (by decide) (by decide)
                have hr_54 := kp_at kp_91 hWF Th (by decide) (by decide) (by decide) hr_54
                refine lv_aload_n G0.1 G0.2.1 dX4_readClause_127 rfl (lv_at hl 3 rfl) ?_
                refine lv_aload_n G0.1 G0.2.1 dX4_readClause_128 rfl (lv_at hl 4 rfl) ?_
                refine lv_iconst (v := 2) G0.1 G0.2.1 dX4_readClause_129 (by decide) ?_
                refine lv_iconst (v := 0) G0.1 G0.2.1 dX4_readClause_130 (by decide) ?_
                refine lv_iconst (v := 0) G0.1 G0.2.1 dX4_readClause_131 (by decide) ?_
                refine py_calli hw (va_runV (As := [.ref t, .int 2, .int 0, .int 0]) (rest := []) G0 (rd_chain2 l E G hG L_85 f_86 H_87.size h t 0 0 hWF Th Tt ⟨by omega, by omega⟩ (show 0 ≤ (0 : Int32).toInt ∧ (0 : Int32).toInt ≤ 6 by omega)) (cwV 4 G0.2.2.2.2 g_X4_readClause_X4_readChain_39 rfl rfl rfl (by decide +kernel) ⟨(Nat.le_of_ble_eq_true rfl), (Nat.le_of_ble_eq_true rfl)⟩) (py_preV hw (C := RX4) (T := TX4) (N := 1) rfl hr_54) rfl rfl hl.1 rfl (lv_room (Nat.le_of_ble_eq_true rfl)) dX4_readClause_132 ⟨(Nat.le_of_ble_eq_true rfl), (Nat.le_of_ble_eq_true rfl)⟩) (fun r_96 L_92 f_93 H_94 locs hp_95 hw => ?_)
                obtain ⟨b_97, hWF, hq_98, kp_99⟩ := hp_95
                have hRP := hRP.trans hq_98
                have hKP := hKP.trans kp_99 (by decide) (by decide)
                have hr_54 := kp_at kp_99 hWF Th (by decide) (by decide) (by decide) hr_54
                refine lv_if_ne (tgt := 140) G0.1 G0.2.1 dX4_readClause_135 (by decide) (fun c_100 => ?_) (fun c_100 => ?_)
                · skip
                  have tc_100 := ti_ne c_100
                  refine lv_aload_n G0.1 G0.2.1 dX4_readClause_140 rfl (lv_at hl 3 rfl) ?_
                  refine py_get (C := RX4) (T := TX4) (N := 1) (k := 0) (v := .ref r_52) G0 hw in_X4_readClause_X4 rfl hr_54 (by decide) (by decide +kernel) rfl dX4_readClause_141 ?_
                  refine lv_bipush (v := 59) G0.1 G0.2.1 dX4_readClause_144 (by decide) ?_
                  refine lv_iconst (v := 0) G0.1 G0.2.1 dX4_readClause_146 (by decide) ?_
                  obtain ⟨v_101, hr_103, b_102⟩ := wg_3 hWF ty_53
                  refine py_callv hw (va_runV (As := [.int 59, .int 0]) (rest := []) G0 (c_X3_add l E G L_92 f_93 H_94.size r_52 59 0 hG hWF ty_53) (cwV 2 G0.2.2.2.2 g_X4_readClause_X3_add_46 rfl rfl rfl (by decide +kernel) ⟨(Nat.le_of_ble_eq_true rfl), (Nat.le_of_ble_eq_true rfl)⟩) (py_preV hw (C := RX3) (T := TX3) (N := 3) rfl hr_103) rfl rfl hl.1 rfl (lv_room (Nat.le_of_ble_eq_true rfl)) dX4_readClause_147 ⟨(Nat.le_of_ble_eq_true rfl), (Nat.le_of_ble_eq_true rfl)⟩) (fun L_104 f_105 H_106 locs hp_107 hw => ?_)
                  obtain ⟨hWF, hq_109, kp_110⟩ := hp_107
                  have hRP := hRP.trans hq_109
                  have hKP := hKP.trans kp_110 (by decide) (by decide)
                  have hr_54 := kp_at kp_110 hWF Th (by decide) (by decide) (by decide) hr_54
                  refine lv_aload_n G0.1 G0.2.1 dX4_readClause_150 rfl (lv_at hl 3 rfl) ?_
                  refine py_get (C := RX4) (T := TX4) (N := 1) (k := 0) (v := .ref r_52) G0 hw in_X4_readClause_X4 rfl hr_54 (by decide) (by decide +kernel) rfl dX4_readClause_151 ?_
                  refine lv_iload G0.1 G0.2.1 dX4_readClause_154 (lv_at hl 0 rfl) ?_
                  obtain ⟨v_111, hr_113, b_112⟩ := wg_3 hWF ty_53
                  refine py_callv hw (va_runV (As := [.int v_82]) (rest := []) G0 (c_X3_aimHere l E G L_104 f_105 H_106.size r_52 v_82 hG hWF ty_53) (cwV 1 G0.2.2.2.2 g_X4_readClause_X3_aimHere_50 rfl rfl rfl (by decide +kernel) ⟨(Nat.le_of_ble_eq_true rfl), (Nat.le_of_ble_eq_true rfl)⟩) (py_preV hw (C := RX3) (T := TX3) (N := 3) rfl hr_113) rfl rfl hl.1 rfl (lv_room (Nat.le_of_ble_eq_true rfl)) dX4_readClause_156 ⟨(Nat.le_of_ble_eq_true rfl), (Nat.le_of_ble_eq_true rfl)⟩) (fun L_114 f_115 H_116 locs hp_117 hw => ?_)
                  obtain ⟨hWF, hq_119, kp_120⟩ := hp_117
                  have hRP := hRP.trans hq_119
                  have hKP := hKP.trans kp_120 (by decide) (by decide)
                  have hr_54 := kp_at kp_120 hWF Th (by decide) (by decide) (by decide) hr_54
                  have hr_113 := kp_at kp_120 hWF ty_53 (by decide) (by decide) (by decide) hr_113
                  refine lv_iconst (v := 1) G0.1 G0.2.1 dX4_readClause_159 (by decide) ?_
                  exact py_iret G0 hr rfl hlk hw ⟨⟨by omega, by omega⟩, hWF, hRP, hKP⟩ dX4_readClause_160
                · skip
                  have tc_100 := ti_eq c_100
                  refine lv_iconst (v := 0) G0.1 G0.2.1 dX4_readClause_138 (by decide) ?_
                  exact py_iret G0 hr rfl hlk hw ⟨⟨by omega, by omega⟩, hWF, hRP, hKP⟩ dX4_readClause_139
              · skip
                have tc_79 := ti_eq c_79
                refine lv_iconst (v := 0) G0.1 G0.2.1 dX4_readClause_106 (by decide) ?_
                exact py_iret G0 hr rfl hlk hw ⟨⟨by omega, by omega⟩, hWF, hRP, hKP⟩ dX4_readClause_107
          · skip
            have tc_51 := ti_ne c_51
            refine lv_aload_n G0.1 G0.2.1 dX4_readClause_64 rfl (lv_at hl 3 rfl) ?_
            obtain ⟨v_121, v_122, v_123, hr_126, b_124, b_125⟩ := wg_8 hWF Tt
            have bv_123 := wf_free v_123
            have tq_127 := tp_eq hr_126
            refine py_calli hw (va_runV (As := []) (rest := []) G0 (c_X8_next l E G L_41 f_42 H_j42.size t hG hWF Tt) (cwV 0 G0.2.2.2.2 g_X4_readClause_X8_next_35 rfl rfl rfl (by decide +kernel) ⟨(Nat.le_of_ble_eq_true rfl), (Nat.le_of_ble_eq_true rfl)⟩) (py_preV hw (C := RX8) (T := TX8) (N := 4) rfl hr_126) rfl rfl hl.1 rfl (lv_room (Nat.le_of_ble_eq_true rfl)) dX4_readClause_65 ⟨(Nat.le_of_ble_eq_true rfl), (Nat.le_of_ble_eq_true rfl)⟩) (fun r_132 L_128 f_129 H_130 locs hp_131 hw => ?_)
            obtain ⟨en_133, hWF, hq_134, kp_135⟩ := hp_131
            have hRP := hRP.trans hq_134
            have hKP := hKP.trans kp_135 (by decide) (by decide)
            have br_132 := wf_free r_132
            refine py_calli hw (va_runS (As := [.int r_132]) (rest := []) G0 (c_X4_isComparison l E G L_128 f_129 H_130.size r_132 hG hWF) (va_cwS 1 G0.2.2.2.2 g_X4_readClause_X4_isComparison_43 rfl rfl rfl (by decide +kernel) ⟨(Nat.le_of_ble_eq_true rfl), (Nat.le_of_ble_eq_true rfl)⟩) (py_preS hw) rfl rfl hl.1 rfl (lv_room (Nat.le_of_ble_eq_true rfl)) dX4_readClause_68 ⟨(Nat.le_of_ble_eq_true rfl), (Nat.le_of_ble_eq_true rfl)⟩) (fun r_140 L_136 f_137 H_138 locs hp_139 hw => ?_)
            obtain ⟨b_142, en_141, rfl, rfl⟩ := hp_139
            refine lv_if_ne (tgt := 86) G0.1 G0.2.1 dX4_readClause_71 (by decide) (fun c_143 => ?_) (fun c_143 => ?_)
            · skip
              have tc_143 := ti_ne c_143
              refine lv_aload_n G0.1 G0.2.1 dX4_readClause_86 rfl (lv_at hl 2 rfl) ?_
              refine lv_aload_n G0.1 G0.2.1 dX4_readClause_87 rfl (lv_at hl 3 rfl) ?_
              refine lv_iconst (v := 0) G0.1 G0.2.1 dX4_readClause_88 (by decide) ?_
              refine lv_iconst (v := 0) G0.1 G0.2.1 dX4_readClause_89 (by decide) ?_
              refine lv_iload_n G0.1 G0.2.1 dX4_readClause_90 rfl (lv_at hl 0 rfl) ?_
              obtain ⟨r_144, hr_146, ty_145⟩ := wg_4 hWF Th
              refine py_calli hw (va_runV (As := [.ref t, .int 0, .int 0, .int v_49]) (rest := []) G0 (rd_chain0 l E G hG L_128 f_129 H_138.size h t 0 v_49 hWF Th Tt ⟨by omega, by omega⟩ (show 0 ≤ (0 : Int32).toInt ∧ (0 : Int32).toInt ≤ 6 by omega)) (cwV 4 G0.2.2.2.2 g_X4_readClause_X4_readChain_39 rfl rfl rfl (by decide +kernel) ⟨(Nat.le_of_ble_eq_true rfl), (Nat.le_of_ble_eq_true rfl)⟩) (py_preV hw (C := RX4) (T := TX4) (N := 1) rfl hr_146) rfl rfl hl.1 rfl (lv_room (Nat.le_of_ble_eq_true rfl)) dX4_readClause_91 ⟨(Nat.le_of_ble_eq_true rfl), (Nat.le_of_ble_eq_true rfl)⟩) (fun r_151 L_147 f_148 H_149 locs hp_150 hw => ?_)
              obtain ⟨b_152, hWF, hq_153, kp_154⟩ := hp_150
              have hRP := hRP.trans hq_153
              have hKP := hKP.trans kp_154 (by decide) (by decide)
              have hr_146 := kp_at kp_154 hWF Th (by decide) (by decide) (by decide) hr_146
              refine lv_if_eq (tgt := 106) G0.1 G0.2.1 dX4_readClause_94 (by decide) (fun c_155 => ?_) (fun c_155 => ?_)
              · skip
                have tc_155 := ti_eq c_155
                refine lv_iconst (v := 0) G0.1 G0.2.1 dX4_readClause_106 (by decide) ?_
                exact py_iret G0 hr rfl hlk hw ⟨⟨by omega, by omega⟩, hWF, hRP, hKP⟩ dX4_readClause_107
              · skip
                have tc_155 := ti_ne c_155
                refine lv_aload_n G0.1 G0.2.1 dX4_readClause_97 rfl (lv_at hl 3 rfl) ?_
                refine lv_bipush (v := 63) G0.1 G0.2.1 dX4_readClause_98 (by decide) ?_
                obtain ⟨v_156, v_157, v_158, hr_161, b_159, b_160⟩ := wg_8 hWF Tt
                have bv_158 := wf_free v_158
                have tq_162 := tp_eq hr_161
                refine py_calli hw (va_runV (As := [.int 63]) (rest := []) G0 (c_X8_take l E G L_147 f_148 H_149.size t 63 hG hWF Tt ⟨by omega, by omega⟩) (cwV 1 G0.2.2.2.2 g_X4_readClause_X8_take_31 rfl rfl rfl (by decide +kernel) ⟨(Nat.le_of_ble_eq_true rfl), (Nat.le_of_ble_eq_true rfl)⟩) (py_preV hw (C := RX8) (T := TX8) (N := 4) rfl hr_161) rfl rfl hl.1 rfl (lv_room (Nat.le_of_ble_eq_true rfl)) dX4_readClause_100 ⟨(Nat.le_of_ble_eq_true rfl), (Nat.le_of_ble_eq_true rfl)⟩) (fun r_167 L_163 f_164 H_165 locs hp_166 hw => ?_)
                obtain ⟨b_168, hWF, hq_169, kp_170⟩ := hp_166
                have hRP := hRP.trans hq_169
                have hKP := hKP.trans kp_170 (by decide) (by decide)
                have hr_146 := kp_at kp_170 hWF Th (by decide) (by decide) (by decide) hr_146
                refine lv_if_ne (tgt := 108) G0.1 G0.2.1 dX4_readClause_103 (by decide) (fun c_171 => ?_) (fun c_171 => ?_)
                · skip
                  have tc_171 := ti_ne c_171
                  refine lv_aload_n G0.1 G0.2.1 dX4_readClause_108 rfl (lv_at hl 2 rfl) ?_
                  refine py_get (C := RX4) (T := TX4) (N := 1) (k := 0) (v := .ref r_144) G0 hw in_X4_readClause_X4 rfl hr_146 (by decide) (by decide +kernel) rfl dX4_readClause_109 ?_
                  obtain ⟨t_172, t_173⟩ := wt_3 hG ty_145
                  obtain ⟨v_174, hr_176, b_175⟩ := wg_3 hWF ty_145
                  refine py_get (C := RX3) (T := TX3) (N := 3) (k := 2) (v := .int v_174) G0 hw in_X4_readClause_X3 rfl hr_176 (by decide) (by decide +kernel) rfl dX4_readClause_112 ?_
                  refine lv_istore (lv' := [(4, .int v_174), (3, .int v_49), (2, .int r_45), (0, .ref h), (1, .ref t)]) G0.1 G0.2.1 dX4_readClause_115 hl (by decide) rfl (fun ls hl => ?_)
                  refine lv_aload_n G0.1 G0.2.1 dX4_readClause_117 rfl (lv_at hl 3 rfl) ?_
                  refine py_get (C := RX4) (T := TX4) (N := 1) (k := 0) (v := .ref r_144) G0 hw in_X4_readClause_X4 rfl hr_146 (by decide) (by decide +kernel) rfl dX4_readClause_118 ?_
                  refine lv_bipush (v := 63) G0.1 G0.2.1 dX4_readClause_121 (by decide) ?_
                  refine lv_iconst (v := 0) G0.1 G0.2.1 dX4_readClause_123 (by decide) ?_
                  refine py_callv hw (va_runV (As := [.int 63, .int 0]) (rest := []) G0 (c_X3_add l E G L_163 f_164 H_165.size r_144 63 0 hG hWF ty_145) (cwV 2 G0.2.2.2.2 g_X4_readClause_X3_add_46 rfl rfl rfl (by decide +kernel) ⟨(Nat.le_of_ble_eq_true rfl), (Nat.le_of_ble_eq_true rfl)⟩) (py_preV hw (C := RX3) (T := TX3) (N := 3) rfl hr_176) rfl rfl hl.1 rfl (lv_room (Nat.le_of_ble_eq_true rfl)) dX4_readClause_124 ⟨(Nat.le_of_ble_eq_true rfl), (Nat.le_of_ble_eq_true rfl)⟩) (fun L_177 f_178 H_179 locs hp_180 hw => ?_)
                  obtain ⟨hWF, hq_182, kp_183⟩ := hp_180
                  have hRP := hRP.trans hq_182
                  have hKP := hKP.trans kp_183 (by decide) (by decide)
                  have hr_146 := kp_at kp_183 hWF Th (by decide) (by decide) (by decide) hr_146
                  refine lv_aload_n G0.1 G0.2.1 dX4_readClause_127 rfl (lv_at hl 3 rfl) ?_
                  refine lv_aload_n G0.1 G0.2.1 dX4_readClause_128 rfl (lv_at hl 4 rfl) ?_
                  refine lv_iconst (v := 2) G0.1 G0.2.1 dX4_readClause_129 (by decide) ?_
                  refine lv_iconst (v := 0) G0.1 G0.2.1 dX4_readClause_130 (by decide) ?_
                  refine lv_iconst (v := 0) G0.1 G0.2.1 dX4_readClause_131 (by decide) ?_
                  refine py_calli hw (va_runV (As := [.ref t, .int 2, .int 0, .int 0]) (rest := []) G0 (rd_chain2 l E G hG L_177 f_178 H_179.size h t 0 0 hWF Th Tt ⟨by omega, by omega⟩ (show 0 ≤ (0 : Int32).toInt ∧ (0 : Int32).toInt ≤ 6 by omega)) (cwV 4 G0.2.2.2.2 g_X4_readClause_X4_readChain_39 rfl rfl rfl (by decide +kernel) ⟨(Nat.le_of_ble_eq_true rfl), (Nat.le_of_ble_eq_true rfl)⟩) (py_preV hw (C := RX4) (T := TX4) (N := 1) rfl hr_146) rfl rfl hl.1 rfl (lv_room (Nat.le_of_ble_eq_true rfl)) dX4_readClause_132 ⟨(Nat.le_of_ble_eq_true rfl), (Nat.le_of_ble_eq_true rfl)⟩) (fun r_188 L_184 f_185 H_186 locs hp_187 hw => ?_)
                  obtain ⟨b_189, hWF, hq_190, kp_191⟩ := hp_187
                  have hRP := hRP.trans hq_190
                  have hKP := hKP.trans kp_191 (by decide) (by decide)
                  have hr_146 := kp_at kp_191 hWF Th (by decide) (by decide) (by decide) hr_146
                  refine lv_if_ne (tgt := 140) G0.1 G0.2.1 dX4_readClause_135 (by decide) (fun c_192 => ?_) (fun c_192 => ?_)
                  · skip
                    have tc_192 := ti_ne c_192
                    refine lv_aload_n G0.1 G0.2.1 dX4_readClause_140 rfl (lv_at hl 3 rfl) ?_
                    refine py_get (C := RX4) (T := TX4) (N := 1) (k := 0) (v := .ref r_144) G0 hw in_X4_readClause_X4 rfl hr_146 (by decide) (by decide +kernel) rfl dX4_readClause_141 ?_
                    refine lv_bipush (v := 59) G0.1 G0.2.1 dX4_readClause_144 (by decide) ?_
                    refine lv_iconst (v := 0) G0.1 G0.2.1 dX4_readClause_146 (by decide) ?_
                    obtain ⟨v_193, hr_195, b_194⟩ := wg_3 hWF ty_145
                    refine py_callv hw (va_runV (As := [.int 59, .int 0]) (rest := []) G0 (c_X3_add l E G L_184 f_185 H_186.size r_144 59 0 hG hWF ty_145) (cwV 2 G0.2.2.2.2 g_X4_readClause_X3_add_46 rfl rfl rfl (by decide +kernel) ⟨(Nat.le_of_ble_eq_true rfl), (Nat.le_of_ble_eq_true rfl)⟩) (py_preV hw (C := RX3) (T := TX3) (N := 3) rfl hr_195) rfl rfl hl.1 rfl (lv_room (Nat.le_of_ble_eq_true rfl)) dX4_readClause_147 ⟨(Nat.le_of_ble_eq_true rfl), (Nat.le_of_ble_eq_true rfl)⟩) (fun L_196 f_197 H_198 locs hp_199 hw => ?_)
                    obtain ⟨hWF, hq_201, kp_202⟩ := hp_199
                    have hRP := hRP.trans hq_201
                    have hKP := hKP.trans kp_202 (by decide) (by decide)
                    have hr_146 := kp_at kp_202 hWF Th (by decide) (by decide) (by decide) hr_146
                    refine lv_aload_n G0.1 G0.2.1 dX4_readClause_150 rfl (lv_at hl 3 rfl) ?_
                    refine py_get (C := RX4) (T := TX4) (N := 1) (k := 0) (v := .ref r_144) G0 hw in_X4_readClause_X4 rfl hr_146 (by decide) (by decide +kernel) rfl dX4_readClause_151 ?_
                    refine lv_iload G0.1 G0.2.1 dX4_readClause_154 (lv_at hl 0 rfl) ?_
                    obtain ⟨v_203, hr_205, b_204⟩ := wg_3 hWF ty_145
                    refine py_callv hw (va_runV (As := [.int v_174]) (rest := []) G0 (c_X3_aimHere l E G L_196 f_197 H_198.size r_144 v_174 hG hWF ty_145) (cwV 1 G0.2.2.2.2 g_X4_readClause_X3_aimHere_50 rfl rfl rfl (by decide +kernel) ⟨(Nat.le_of_ble_eq_true rfl), (Nat.le_of_ble_eq_true rfl)⟩) (py_preV hw (C := RX3) (T := TX3) (N := 3) rfl hr_205) rfl rfl hl.1 rfl (lv_room (Nat.le_of_ble_eq_true rfl)) dX4_readClause_156 ⟨(Nat.le_of_ble_eq_true rfl), (Nat.le_of_ble_eq_true rfl)⟩) (fun L_206 f_207 H_208 locs hp_209 hw => ?_)
                    obtain ⟨hWF, hq_211, kp_212⟩ := hp_209
                    have hRP := hRP.trans hq_211
                    have hKP := hKP.trans kp_212 (by decide) (by decide)
                    have hr_146 := kp_at kp_212 hWF Th (by decide) (by decide) (by decide) hr_146
                    have hr_205 := kp_at kp_212 hWF ty_145 (by decide) (by decide) (by decide) hr_205
                    refine lv_iconst (v := 1) G0.1 G0.2.1 dX4_readClause_159 (by decide) ?_
                    exact py_iret G0 hr rfl hlk hw ⟨⟨by omega, by omega⟩, hWF, hRP, hKP⟩ dX4_readClause_160
                  · skip
                    have tc_192 := ti_eq c_192
                    refine lv_iconst (v := 0) G0.1 G0.2.1 dX4_readClause_138 (by decide) ?_
                    exact py_iret G0 hr rfl hlk hw ⟨⟨by omega, by omega⟩, hWF, hRP, hKP⟩ dX4_readClause_139
                · skip
                  have tc_171 := ti_eq c_171
                  refine lv_iconst (v := 0) G0.1 G0.2.1 dX4_readClause_106 (by decide) ?_
                  exact py_iret G0 hr rfl hlk hw ⟨⟨by omega, by omega⟩, hWF, hRP, hKP⟩ dX4_readClause_107
            · skip
              have tc_143 := ti_eq c_143
              refine lv_aload_n G0.1 G0.2.1 dX4_readClause_74 rfl (lv_at hl 2 rfl) ?_
              obtain ⟨r_213, hr_215, ty_214⟩ := wg_4 hWF Th
              refine py_get (C := RX4) (T := TX4) (N := 1) (k := 0) (v := .ref r_213) G0 hw in_X4_readClause_X4 rfl hr_215 (by decide) (by decide +kernel) rfl dX4_readClause_75 ?_
              refine lv_bipush (v := 59) G0.1 G0.2.1 dX4_readClause_78 (by decide) ?_
              refine lv_iconst (v := 0) G0.1 G0.2.1 dX4_readClause_80 (by decide) ?_
              obtain ⟨t_216, t_217⟩ := wt_3 hG ty_214
              obtain ⟨v_218, hr_220, b_219⟩ := wg_3 hWF ty_214
              refine py_callv hw (va_runV (As := [.int 59, .int 0]) (rest := []) G0 (c_X3_add l E G L_128 f_129 H_138.size r_213 59 0 hG hWF ty_214) (cwV 2 G0.2.2.2.2 g_X4_readClause_X3_add_46 rfl rfl rfl (by decide +kernel) ⟨(Nat.le_of_ble_eq_true rfl), (Nat.le_of_ble_eq_true rfl)⟩) (py_preV hw (C := RX3) (T := TX3) (N := 3) rfl hr_220) rfl rfl hl.1 rfl (lv_room (Nat.le_of_ble_eq_true rfl)) dX4_readClause_81 ⟨(Nat.le_of_ble_eq_true rfl), (Nat.le_of_ble_eq_true rfl)⟩) (fun L_221 f_222 H_223 locs hp_224 hw => ?_)
              obtain ⟨hWF, hq_226, kp_227⟩ := hp_224
              have hRP := hRP.trans hq_226
              have hKP := hKP.trans kp_227 (by decide) (by decide)
              have hr_215 := kp_at kp_227 hWF Th (by decide) (by decide) (by decide) hr_215
              refine lv_iconst (v := 1) G0.1 G0.2.1 dX4_readClause_84 (by decide) ?_
              exact py_iret G0 hr rfl hlk hw ⟨⟨by omega, by omega⟩, hWF, hRP, hKP⟩ dX4_readClause_85
        · skip
          have tc_50 := ti_ne c_50
          refine lv_aload_n G0.1 G0.2.1 dX4_readClause_47 rfl (lv_at hl 2 rfl) ?_
          refine lv_aload_n G0.1 G0.2.1 dX4_readClause_48 rfl (lv_at hl 3 rfl) ?_
          refine lv_iconst (v := 2) G0.1 G0.2.1 dX4_readClause_49 (by decide) ?_
          refine lv_iconst (v := 0) G0.1 G0.2.1 dX4_readClause_50 (by decide) ?_
          refine lv_iconst (v := 0) G0.1 G0.2.1 dX4_readClause_51 (by decide) ?_
          obtain ⟨r_228, hr_230, ty_229⟩ := wg_4 hWF Th
          refine py_calli hw (va_runV (As := [.ref t, .int 2, .int 0, .int 0]) (rest := []) G0 (rd_chain2 l E G hG L_41 f_42 H_j42.size h t 0 0 hWF Th Tt ⟨by omega, by omega⟩ (show 0 ≤ (0 : Int32).toInt ∧ (0 : Int32).toInt ≤ 6 by omega)) (cwV 4 G0.2.2.2.2 g_X4_readClause_X4_readChain_39 rfl rfl rfl (by decide +kernel) ⟨(Nat.le_of_ble_eq_true rfl), (Nat.le_of_ble_eq_true rfl)⟩) (py_preV hw (C := RX4) (T := TX4) (N := 1) rfl hr_230) rfl rfl hl.1 rfl (lv_room (Nat.le_of_ble_eq_true rfl)) dX4_readClause_52 ⟨(Nat.le_of_ble_eq_true rfl), (Nat.le_of_ble_eq_true rfl)⟩) (fun r_235 L_231 f_232 H_233 locs hp_234 hw => ?_)
          obtain ⟨b_236, hWF, hq_237, kp_238⟩ := hp_234
          have hRP := hRP.trans hq_237
          have hKP := hKP.trans kp_238 (by decide) (by decide)
          have hr_230 := kp_at kp_238 hWF Th (by decide) (by decide) (by decide) hr_230
          refine lv_if_ne (tgt := 60) G0.1 G0.2.1 dX4_readClause_55 (by decide) (fun c_239 => ?_) (fun c_239 => ?_)
          · skip
            have tc_239 := ti_ne c_239
            refine lv_iload_n G0.1 G0.2.1 dX4_readClause_60 rfl (lv_at hl 0 rfl) ?_
            refine lv_if_eq (tgt := 86) G0.1 G0.2.1 dX4_readClause_61 (by decide) (fun c_240 => ?_) (fun c_240 => ?_)
            · skip
              have tc_240 := ti_eq c_240
              refine lv_aload_n G0.1 G0.2.1 dX4_readClause_86 rfl (lv_at hl 2 rfl) ?_
              refine lv_aload_n G0.1 G0.2.1 dX4_readClause_87 rfl (lv_at hl 3 rfl) ?_
              refine lv_iconst (v := 0) G0.1 G0.2.1 dX4_readClause_88 (by decide) ?_
              refine lv_iconst (v := 0) G0.1 G0.2.1 dX4_readClause_89 (by decide) ?_
              refine lv_iload_n G0.1 G0.2.1 dX4_readClause_90 rfl (lv_at hl 0 rfl) ?_
              refine py_calli hw (va_runV (As := [.ref t, .int 0, .int 0, .int v_49]) (rest := []) G0 (rd_chain0 l E G hG L_231 f_232 H_233.size h t 0 v_49 hWF Th Tt ⟨by omega, by omega⟩ (show 0 ≤ (0 : Int32).toInt ∧ (0 : Int32).toInt ≤ 6 by omega)) (cwV 4 G0.2.2.2.2 g_X4_readClause_X4_readChain_39 rfl rfl rfl (by decide +kernel) ⟨(Nat.le_of_ble_eq_true rfl), (Nat.le_of_ble_eq_true rfl)⟩) (py_preV hw (C := RX4) (T := TX4) (N := 1) rfl hr_230) rfl rfl hl.1 rfl (lv_room (Nat.le_of_ble_eq_true rfl)) dX4_readClause_91 ⟨(Nat.le_of_ble_eq_true rfl), (Nat.le_of_ble_eq_true rfl)⟩) (fun r_245 L_241 f_242 H_243 locs hp_244 hw => ?_)
              obtain ⟨b_246, hWF, hq_247, kp_248⟩ := hp_244
              have hRP := hRP.trans hq_247
              have hKP := hKP.trans kp_248 (by decide) (by decide)
              have hr_230 := kp_at kp_248 hWF Th (by decide) (by decide) (by decide) hr_230
              refine lv_if_eq (tgt := 106) G0.1 G0.2.1 dX4_readClause_94 (by decide) (fun c_249 => ?_) (fun c_249 => ?_)
              · skip
                have tc_249 := ti_eq c_249
                refine lv_iconst (v := 0) G0.1 G0.2.1 dX4_readClause_106 (by decide) ?_
                exact py_iret G0 hr rfl hlk hw ⟨⟨by omega, by omega⟩, hWF, hRP, hKP⟩ dX4_readClause_107
              · skip
                have tc_249 := ti_ne c_249
                refine lv_aload_n G0.1 G0.2.1 dX4_readClause_97 rfl (lv_at hl 3 rfl) ?_
                refine lv_bipush (v := 63) G0.1 G0.2.1 dX4_readClause_98 (by decide) ?_
                obtain ⟨v_250, v_251, v_252, hr_255, b_253, b_254⟩ := wg_8 hWF Tt
                have bv_252 := wf_free v_252
                have tq_256 := tp_eq hr_255
                refine py_calli hw (va_runV (As := [.int 63]) (rest := []) G0 (c_X8_take l E G L_241 f_242 H_243.size t 63 hG hWF Tt ⟨by omega, by omega⟩) (cwV 1 G0.2.2.2.2 g_X4_readClause_X8_take_31 rfl rfl rfl (by decide +kernel) ⟨(Nat.le_of_ble_eq_true rfl), (Nat.le_of_ble_eq_true rfl)⟩) (py_preV hw (C := RX8) (T := TX8) (N := 4) rfl hr_255) rfl rfl hl.1 rfl (lv_room (Nat.le_of_ble_eq_true rfl)) dX4_readClause_100 ⟨(Nat.le_of_ble_eq_true rfl), (Nat.le_of_ble_eq_true rfl)⟩) (fun r_261 L_257 f_258 H_259 locs hp_260 hw => ?_)
                obtain ⟨b_262, hWF, hq_263, kp_264⟩ := hp_260
                have hRP := hRP.trans hq_263
                have hKP := hKP.trans kp_264 (by decide) (by decide)
                have hr_230 := kp_at kp_264 hWF Th (by decide) (by decide) (by decide) hr_230
                refine lv_if_ne (tgt := 108) G0.1 G0.2.1 dX4_readClause_103 (by decide) (fun c_265 => ?_) (fun c_265 => ?_)
                · skip
                  have tc_265 := ti_ne c_265
                  refine lv_aload_n G0.1 G0.2.1 dX4_readClause_108 rfl (lv_at hl 2 rfl) ?_
                  refine py_get (C := RX4) (T := TX4) (N := 1) (k := 0) (v := .ref r_228) G0 hw in_X4_readClause_X4 rfl hr_230 (by decide) (by decide +kernel) rfl dX4_readClause_109 ?_
                  obtain ⟨t_266, t_267⟩ := wt_3 hG ty_229
                  obtain ⟨v_268, hr_270, b_269⟩ := wg_3 hWF ty_229
                  refine py_get (C := RX3) (T := TX3) (N := 3) (k := 2) (v := .int v_268) G0 hw in_X4_readClause_X3 rfl hr_270 (by decide) (by decide +kernel) rfl dX4_readClause_112 ?_
                  refine lv_istore (lv' := [(4, .int v_268), (3, .int v_49), (2, .int r_45), (0, .ref h), (1, .ref t)]) G0.1 G0.2.1 dX4_readClause_115 hl (by decide) rfl (fun ls hl => ?_)
                  refine lv_aload_n G0.1 G0.2.1 dX4_readClause_117 rfl (lv_at hl 3 rfl) ?_
                  refine py_get (C := RX4) (T := TX4) (N := 1) (k := 0) (v := .ref r_228) G0 hw in_X4_readClause_X4 rfl hr_230 (by decide) (by decide +kernel) rfl dX4_readClause_118 ?_
                  refine lv_bipush (v := 63) G0.1 G0.2.1 dX4_readClause_121 (by decide) ?_
                  refine lv_iconst (v := 0) G0.1 G0.2.1 dX4_readClause_123 (by decide) ?_
                  refine py_callv hw (va_runV (As := [.int 63, .int 0]) (rest := []) G0 (c_X3_add l E G L_257 f_258 H_259.size r_228 63 0 hG hWF ty_229) (cwV 2 G0.2.2.2.2 g_X4_readClause_X3_add_46 rfl rfl rfl (by decide +kernel) ⟨(Nat.le_of_ble_eq_true rfl), (Nat.le_of_ble_eq_true rfl)⟩) (py_preV hw (C := RX3) (T := TX3) (N := 3) rfl hr_270) rfl rfl hl.1 rfl (lv_room (Nat.le_of_ble_eq_true rfl)) dX4_readClause_124 ⟨(Nat.le_of_ble_eq_true rfl), (Nat.le_of_ble_eq_true rfl)⟩) (fun L_271 f_272 H_273 locs hp_274 hw => ?_)
                  obtain ⟨hWF, hq_276, kp_277⟩ := hp_274
                  have hRP := hRP.trans hq_276
                  have hKP := hKP.trans kp_277 (by decide) (by decide)
                  have hr_230 := kp_at kp_277 hWF Th (by decide) (by decide) (by decide) hr_230
                  refine lv_aload_n G0.1 G0.2.1 dX4_readClause_127 rfl (lv_at hl 3 rfl) ?_
                  refine lv_aload_n G0.1 G0.2.1 dX4_readClause_128 rfl (lv_at hl 4 rfl) ?_
                  refine lv_iconst (v := 2) G0.1 G0.2.1 dX4_readClause_129 (by decide) ?_
                  refine lv_iconst (v := 0) G0.1 G0.2.1 dX4_readClause_130 (by decide) ?_
                  refine lv_iconst (v := 0) G0.1 G0.2.1 dX4_readClause_131 (by decide) ?_
                  refine py_calli hw (va_runV (As := [.ref t, .int 2, .int 0, .int 0]) (rest := []) G0 (rd_chain2 l E G hG L_271 f_272 H_273.size h t 0 0 hWF Th Tt ⟨by omega, by omega⟩ (show 0 ≤ (0 : Int32).toInt ∧ (0 : Int32).toInt ≤ 6 by omega)) (cwV 4 G0.2.2.2.2 g_X4_readClause_X4_readChain_39 rfl rfl rfl (by decide +kernel) ⟨(Nat.le_of_ble_eq_true rfl), (Nat.le_of_ble_eq_true rfl)⟩) (py_preV hw (C := RX4) (T := TX4) (N := 1) rfl hr_230) rfl rfl hl.1 rfl (lv_room (Nat.le_of_ble_eq_true rfl)) dX4_readClause_132 ⟨(Nat.le_of_ble_eq_true rfl), (Nat.le_of_ble_eq_true rfl)⟩) (fun r_282 L_278 f_279 H_280 locs hp_281 hw => ?_)
                  obtain ⟨b_283, hWF, hq_284, kp_285⟩ := hp_281
                  have hRP := hRP.trans hq_284
                  have hKP := hKP.trans kp_285 (by decide) (by decide)
                  have hr_230 := kp_at kp_285 hWF Th (by decide) (by decide) (by decide) hr_230
                  refine lv_if_ne (tgt := 140) G0.1 G0.2.1 dX4_readClause_135 (by decide) (fun c_286 => ?_) (fun c_286 => ?_)
                  · skip
                    have tc_286 := ti_ne c_286
                    refine lv_aload_n G0.1 G0.2.1 dX4_readClause_140 rfl (lv_at hl 3 rfl) ?_
                    refine py_get (C := RX4) (T := TX4) (N := 1) (k := 0) (v := .ref r_228) G0 hw in_X4_readClause_X4 rfl hr_230 (by decide) (by decide +kernel) rfl dX4_readClause_141 ?_
                    refine lv_bipush (v := 59) G0.1 G0.2.1 dX4_readClause_144 (by decide) ?_
                    refine lv_iconst (v := 0) G0.1 G0.2.1 dX4_readClause_146 (by decide) ?_
                    obtain ⟨v_287, hr_289, b_288⟩ := wg_3 hWF ty_229
                    refine py_callv hw (va_runV (As := [.int 59, .int 0]) (rest := []) G0 (c_X3_add l E G L_278 f_279 H_280.size r_228 59 0 hG hWF ty_229) (cwV 2 G0.2.2.2.2 g_X4_readClause_X3_add_46 rfl rfl rfl (by decide +kernel) ⟨(Nat.le_of_ble_eq_true rfl), (Nat.le_of_ble_eq_true rfl)⟩) (py_preV hw (C := RX3) (T := TX3) (N := 3) rfl hr_289) rfl rfl hl.1 rfl (lv_room (Nat.le_of_ble_eq_true rfl)) dX4_readClause_147 ⟨(Nat.le_of_ble_eq_true rfl), (Nat.le_of_ble_eq_true rfl)⟩) (fun L_290 f_291 H_292 locs hp_293 hw => ?_)
                    obtain ⟨hWF, hq_295, kp_296⟩ := hp_293
                    have hRP := hRP.trans hq_295
                    have hKP := hKP.trans kp_296 (by decide) (by decide)
                    have hr_230 := kp_at kp_296 hWF Th (by decide) (by decide) (by decide) hr_230
                    refine lv_aload_n G0.1 G0.2.1 dX4_readClause_150 rfl (lv_at hl 3 rfl) ?_
                    refine py_get (C := RX4) (T := TX4) (N := 1) (k := 0) (v := .ref r_228) G0 hw in_X4_readClause_X4 rfl hr_230 (by decide) (by decide +kernel) rfl dX4_readClause_151 ?_
                    refine lv_iload G0.1 G0.2.1 dX4_readClause_154 (lv_at hl 0 rfl) ?_
                    obtain ⟨v_297, hr_299, b_298⟩ := wg_3 hWF ty_229
                    refine py_callv hw (va_runV (As := [.int v_268]) (rest := []) G0 (c_X3_aimHere l E G L_290 f_291 H_292.size r_228 v_268 hG hWF ty_229) (cwV 1 G0.2.2.2.2 g_X4_readClause_X3_aimHere_50 rfl rfl rfl (by decide +kernel) ⟨(Nat.le_of_ble_eq_true rfl), (Nat.le_of_ble_eq_true rfl)⟩) (py_preV hw (C := RX3) (T := TX3) (N := 3) rfl hr_299) rfl rfl hl.1 rfl (lv_room (Nat.le_of_ble_eq_true rfl)) dX4_readClause_156 ⟨(Nat.le_of_ble_eq_true rfl), (Nat.le_of_ble_eq_true rfl)⟩) (fun L_300 f_301 H_302 locs hp_303 hw => ?_)
                    obtain ⟨hWF, hq_305, kp_306⟩ := hp_303
                    have hRP := hRP.trans hq_305
                    have hKP := hKP.trans kp_306 (by decide) (by decide)
                    have hr_230 := kp_at kp_306 hWF Th (by decide) (by decide) (by decide) hr_230
                    have hr_299 := kp_at kp_306 hWF ty_229 (by decide) (by decide) (by decide) hr_299
                    refine lv_iconst (v := 1) G0.1 G0.2.1 dX4_readClause_159 (by decide) ?_
                    exact py_iret G0 hr rfl hlk hw ⟨⟨by omega, by omega⟩, hWF, hRP, hKP⟩ dX4_readClause_160
                  · skip
                    have tc_286 := ti_eq c_286
                    refine lv_iconst (v := 0) G0.1 G0.2.1 dX4_readClause_138 (by decide) ?_
                    exact py_iret G0 hr rfl hlk hw ⟨⟨by omega, by omega⟩, hWF, hRP, hKP⟩ dX4_readClause_139
                · skip
                  have tc_265 := ti_eq c_265
                  refine lv_iconst (v := 0) G0.1 G0.2.1 dX4_readClause_106 (by decide) ?_
                  exact py_iret G0 hr rfl hlk hw ⟨⟨by omega, by omega⟩, hWF, hRP, hKP⟩ dX4_readClause_107
            · skip
              have tc_240 := ti_ne c_240
              refine lv_aload_n G0.1 G0.2.1 dX4_readClause_64 rfl (lv_at hl 3 rfl) ?_
              obtain ⟨v_307, v_308, v_309, hr_312, b_310, b_311⟩ := wg_8 hWF Tt
              have bv_309 := wf_free v_309
              have tq_313 := tp_eq hr_312
              refine py_calli hw (va_runV (As := []) (rest := []) G0 (c_X8_next l E G L_231 f_232 H_233.size t hG hWF Tt) (cwV 0 G0.2.2.2.2 g_X4_readClause_X8_next_35 rfl rfl rfl (by decide +kernel) ⟨(Nat.le_of_ble_eq_true rfl), (Nat.le_of_ble_eq_true rfl)⟩) (py_preV hw (C := RX8) (T := TX8) (N := 4) rfl hr_312) rfl rfl hl.1 rfl (lv_room (Nat.le_of_ble_eq_true rfl)) dX4_readClause_65 ⟨(Nat.le_of_ble_eq_true rfl), (Nat.le_of_ble_eq_true rfl)⟩) (fun r_318 L_314 f_315 H_316 locs hp_317 hw => ?_)
              obtain ⟨en_319, hWF, hq_320, kp_321⟩ := hp_317
              have hRP := hRP.trans hq_320
              have hKP := hKP.trans kp_321 (by decide) (by decide)
              have hr_230 := kp_at kp_321 hWF Th (by decide) (by decide) (by decide) hr_230
              have br_318 := wf_free r_318
              refine py_calli hw (va_runS (As := [.int r_318]) (rest := []) G0 (c_X4_isComparison l E G L_314 f_315 H_316.size r_318 hG hWF) (va_cwS 1 G0.2.2.2.2 g_X4_readClause_X4_isComparison_43 rfl rfl rfl (by decide +kernel) ⟨(Nat.le_of_ble_eq_true rfl), (Nat.le_of_ble_eq_true rfl)⟩) (py_preS hw) rfl rfl hl.1 rfl (lv_room (Nat.le_of_ble_eq_true rfl)) dX4_readClause_68 ⟨(Nat.le_of_ble_eq_true rfl), (Nat.le_of_ble_eq_true rfl)⟩) (fun r_326 L_322 f_323 H_324 locs hp_325 hw => ?_)
              obtain ⟨b_328, en_327, rfl, rfl⟩ := hp_325
              refine lv_if_ne (tgt := 86) G0.1 G0.2.1 dX4_readClause_71 (by decide) (fun c_329 => ?_) (fun c_329 => ?_)
              · skip
                have tc_329 := ti_ne c_329
                refine lv_aload_n G0.1 G0.2.1 dX4_readClause_86 rfl (lv_at hl 2 rfl) ?_
                refine lv_aload_n G0.1 G0.2.1 dX4_readClause_87 rfl (lv_at hl 3 rfl) ?_
                refine lv_iconst (v := 0) G0.1 G0.2.1 dX4_readClause_88 (by decide) ?_
                refine lv_iconst (v := 0) G0.1 G0.2.1 dX4_readClause_89 (by decide) ?_
                refine lv_iload_n G0.1 G0.2.1 dX4_readClause_90 rfl (lv_at hl 0 rfl) ?_
                refine py_calli hw (va_runV (As := [.ref t, .int 0, .int 0, .int v_49]) (rest := []) G0 (rd_chain0 l E G hG L_314 f_315 H_324.size h t 0 v_49 hWF Th Tt ⟨by omega, by omega⟩ (show 0 ≤ (0 : Int32).toInt ∧ (0 : Int32).toInt ≤ 6 by omega)) (cwV 4 G0.2.2.2.2 g_X4_readClause_X4_readChain_39 rfl rfl rfl (by decide +kernel) ⟨(Nat.le_of_ble_eq_true rfl), (Nat.le_of_ble_eq_true rfl)⟩) (py_preV hw (C := RX4) (T := TX4) (N := 1) rfl hr_230) rfl rfl hl.1 rfl (lv_room (Nat.le_of_ble_eq_true rfl)) dX4_readClause_91 ⟨(Nat.le_of_ble_eq_true rfl), (Nat.le_of_ble_eq_true rfl)⟩) (fun r_334 L_330 f_331 H_332 locs hp_333 hw => ?_)
                obtain ⟨b_335, hWF, hq_336, kp_337⟩ := hp_333
                have hRP := hRP.trans hq_336
                have hKP := hKP.trans kp_337 (by decide) (by decide)
                have hr_230 := kp_at kp_337 hWF Th (by decide) (by decide) (by decide) hr_230
                refine lv_if_eq (tgt := 106) G0.1 G0.2.1 dX4_readClause_94 (by decide) (fun c_338 => ?_) (fun c_338 => ?_)
                · skip
                  have tc_338 := ti_eq c_338
                  refine lv_iconst (v := 0) G0.1 G0.2.1 dX4_readClause_106 (by decide) ?_
                  exact py_iret G0 hr rfl hlk hw ⟨⟨by omega, by omega⟩, hWF, hRP, hKP⟩ dX4_readClause_107
                · skip
                  have tc_338 := ti_ne c_338
                  refine lv_aload_n G0.1 G0.2.1 dX4_readClause_97 rfl (lv_at hl 3 rfl) ?_
                  refine lv_bipush (v := 63) G0.1 G0.2.1 dX4_readClause_98 (by decide) ?_
                  obtain ⟨v_339, v_340, v_341, hr_344, b_342, b_343⟩ := wg_8 hWF Tt
                  have bv_341 := wf_free v_341
                  have tq_345 := tp_eq hr_344
                  refine py_calli hw (va_runV (As := [.int 63]) (rest := []) G0 (c_X8_take l E G L_330 f_331 H_332.size t 63 hG hWF Tt ⟨by omega, by omega⟩) (cwV 1 G0.2.2.2.2 g_X4_readClause_X8_take_31 rfl rfl rfl (by decide +kernel) ⟨(Nat.le_of_ble_eq_true rfl), (Nat.le_of_ble_eq_true rfl)⟩) (py_preV hw (C := RX8) (T := TX8) (N := 4) rfl hr_344) rfl rfl hl.1 rfl (lv_room (Nat.le_of_ble_eq_true rfl)) dX4_readClause_100 ⟨(Nat.le_of_ble_eq_true rfl), (Nat.le_of_ble_eq_true rfl)⟩) (fun r_350 L_346 f_347 H_348 locs hp_349 hw => ?_)
                  obtain ⟨b_351, hWF, hq_352, kp_353⟩ := hp_349
                  have hRP := hRP.trans hq_352
                  have hKP := hKP.trans kp_353 (by decide) (by decide)
                  have hr_230 := kp_at kp_353 hWF Th (by decide) (by decide) (by decide) hr_230
                  refine lv_if_ne (tgt := 108) G0.1 G0.2.1 dX4_readClause_103 (by decide) (fun c_354 => ?_) (fun c_354 => ?_)
                  · skip
                    have tc_354 := ti_ne c_354
                    refine lv_aload_n G0.1 G0.2.1 dX4_readClause_108 rfl (lv_at hl 2 rfl) ?_
                    refine py_get (C := RX4) (T := TX4) (N := 1) (k := 0) (v := .ref r_228) G0 hw in_X4_readClause_X4 rfl hr_230 (by decide) (by decide +kernel) rfl dX4_readClause_109 ?_
                    obtain ⟨t_355, t_356⟩ := wt_3 hG ty_229
                    obtain ⟨v_357, hr_359, b_358⟩ := wg_3 hWF ty_229
                    refine py_get (C := RX3) (T := TX3) (N := 3) (k := 2) (v := .int v_357) G0 hw in_X4_readClause_X3 rfl hr_359 (by decide) (by decide +kernel) rfl dX4_readClause_112 ?_
                    refine lv_istore (lv' := [(4, .int v_357), (3, .int v_49), (2, .int r_45), (0, .ref h), (1, .ref t)]) G0.1 G0.2.1 dX4_readClause_115 hl (by decide) rfl (fun ls hl => ?_)
                    refine lv_aload_n G0.1 G0.2.1 dX4_readClause_117 rfl (lv_at hl 3 rfl) ?_
                    refine py_get (C := RX4) (T := TX4) (N := 1) (k := 0) (v := .ref r_228) G0 hw in_X4_readClause_X4 rfl hr_230 (by decide) (by decide +kernel) rfl dX4_readClause_118 ?_
                    refine lv_bipush (v := 63) G0.1 G0.2.1 dX4_readClause_121 (by decide) ?_
                    refine lv_iconst (v := 0) G0.1 G0.2.1 dX4_readClause_123 (by decide) ?_
                    refine py_callv hw (va_runV (As := [.int 63, .int 0]) (rest := []) G0 (c_X3_add l E G L_346 f_347 H_348.size r_228 63 0 hG hWF ty_229) (cwV 2 G0.2.2.2.2 g_X4_readClause_X3_add_46 rfl rfl rfl (by decide +kernel) ⟨(Nat.le_of_ble_eq_true rfl), (Nat.le_of_ble_eq_true rfl)⟩) (py_preV hw (C := RX3) (T := TX3) (N := 3) rfl hr_359) rfl rfl hl.1 rfl (lv_room (Nat.le_of_ble_eq_true rfl)) dX4_readClause_124 ⟨(Nat.le_of_ble_eq_true rfl), (Nat.le_of_ble_eq_true rfl)⟩) (fun L_360 f_361 H_362 locs hp_363 hw => ?_)
                    obtain ⟨hWF, hq_365, kp_366⟩ := hp_363
                    have hRP := hRP.trans hq_365
                    have hKP := hKP.trans kp_366 (by decide) (by decide)
                    have hr_230 := kp_at kp_366 hWF Th (by decide) (by decide) (by decide) hr_230
                    refine lv_aload_n G0.1 G0.2.1 dX4_readClause_127 rfl (lv_at hl 3 rfl) ?_
                    refine lv_aload_n G0.1 G0.2.1 dX4_readClause_128 rfl (lv_at hl 4 rfl) ?_
                    refine lv_iconst (v := 2) G0.1 G0.2.1 dX4_readClause_129 (by decide) ?_
                    refine lv_iconst (v := 0) G0.1 G0.2.1 dX4_readClause_130 (by decide) ?_
                    refine lv_iconst (v := 0) G0.1 G0.2.1 dX4_readClause_131 (by decide) ?_
                    refine py_calli hw (va_runV (As := [.ref t, .int 2, .int 0, .int 0]) (rest := []) G0 (rd_chain2 l E G hG L_360 f_361 H_362.size h t 0 0 hWF Th Tt ⟨by omega, by omega⟩ (show 0 ≤ (0 : Int32).toInt ∧ (0 : Int32).toInt ≤ 6 by omega)) (cwV 4 G0.2.2.2.2 g_X4_readClause_X4_readChain_39 rfl rfl rfl (by decide +kernel) ⟨(Nat.le_of_ble_eq_true rfl), (Nat.le_of_ble_eq_true rfl)⟩) (py_preV hw (C := RX4) (T := TX4) (N := 1) rfl hr_230) rfl rfl hl.1 rfl (lv_room (Nat.le_of_ble_eq_true rfl)) dX4_readClause_132 ⟨(Nat.le_of_ble_eq_true rfl), (Nat.le_of_ble_eq_true rfl)⟩) (fun r_371 L_367 f_368 H_369 locs hp_370 hw => ?_)
                    obtain ⟨b_372, hWF, hq_373, kp_374⟩ := hp_370
                    have hRP := hRP.trans hq_373
                    have hKP := hKP.trans kp_374 (by decide) (by decide)
                    have hr_230 := kp_at kp_374 hWF Th (by decide) (by decide) (by decide) hr_230
                    refine lv_if_ne (tgt := 140) G0.1 G0.2.1 dX4_readClause_135 (by decide) (fun c_375 => ?_) (fun c_375 => ?_)
                    · skip
                      have tc_375 := ti_ne c_375
                      refine lv_aload_n G0.1 G0.2.1 dX4_readClause_140 rfl (lv_at hl 3 rfl) ?_
                      refine py_get (C := RX4) (T := TX4) (N := 1) (k := 0) (v := .ref r_228) G0 hw in_X4_readClause_X4 rfl hr_230 (by decide) (by decide +kernel) rfl dX4_readClause_141 ?_
                      refine lv_bipush (v := 59) G0.1 G0.2.1 dX4_readClause_144 (by decide) ?_
                      refine lv_iconst (v := 0) G0.1 G0.2.1 dX4_readClause_146 (by decide) ?_
                      obtain ⟨v_376, hr_378, b_377⟩ := wg_3 hWF ty_229
                      refine py_callv hw (va_runV (As := [.int 59, .int 0]) (rest := []) G0 (c_X3_add l E G L_367 f_368 H_369.size r_228 59 0 hG hWF ty_229) (cwV 2 G0.2.2.2.2 g_X4_readClause_X3_add_46 rfl rfl rfl (by decide +kernel) ⟨(Nat.le_of_ble_eq_true rfl), (Nat.le_of_ble_eq_true rfl)⟩) (py_preV hw (C := RX3) (T := TX3) (N := 3) rfl hr_378) rfl rfl hl.1 rfl (lv_room (Nat.le_of_ble_eq_true rfl)) dX4_readClause_147 ⟨(Nat.le_of_ble_eq_true rfl), (Nat.le_of_ble_eq_true rfl)⟩) (fun L_379 f_380 H_381 locs hp_382 hw => ?_)
                      obtain ⟨hWF, hq_384, kp_385⟩ := hp_382
                      have hRP := hRP.trans hq_384
                      have hKP := hKP.trans kp_385 (by decide) (by decide)
                      have hr_230 := kp_at kp_385 hWF Th (by decide) (by decide) (by decide) hr_230
                      refine lv_aload_n G0.1 G0.2.1 dX4_readClause_150 rfl (lv_at hl 3 rfl) ?_
                      refine py_get (C := RX4) (T := TX4) (N := 1) (k := 0) (v := .ref r_228) G0 hw in_X4_readClause_X4 rfl hr_230 (by decide) (by decide +kernel) rfl dX4_readClause_151 ?_
                      refine lv_iload G0.1 G0.2.1 dX4_readClause_154 (lv_at hl 0 rfl) ?_
                      obtain ⟨v_386, hr_388, b_387⟩ := wg_3 hWF ty_229
                      refine py_callv hw (va_runV (As := [.int v_357]) (rest := []) G0 (c_X3_aimHere l E G L_379 f_380 H_381.size r_228 v_357 hG hWF ty_229) (cwV 1 G0.2.2.2.2 g_X4_readClause_X3_aimHere_50 rfl rfl rfl (by decide +kernel) ⟨(Nat.le_of_ble_eq_true rfl), (Nat.le_of_ble_eq_true rfl)⟩) (py_preV hw (C := RX3) (T := TX3) (N := 3) rfl hr_388) rfl rfl hl.1 rfl (lv_room (Nat.le_of_ble_eq_true rfl)) dX4_readClause_156 ⟨(Nat.le_of_ble_eq_true rfl), (Nat.le_of_ble_eq_true rfl)⟩) (fun L_389 f_390 H_391 locs hp_392 hw => ?_)
                      obtain ⟨hWF, hq_394, kp_395⟩ := hp_392
                      have hRP := hRP.trans hq_394
                      have hKP := hKP.trans kp_395 (by decide) (by decide)
                      have hr_230 := kp_at kp_395 hWF Th (by decide) (by decide) (by decide) hr_230
                      have hr_388 := kp_at kp_395 hWF ty_229 (by decide) (by decide) (by decide) hr_388
                      refine lv_iconst (v := 1) G0.1 G0.2.1 dX4_readClause_159 (by decide) ?_
                      exact py_iret G0 hr rfl hlk hw ⟨⟨by omega, by omega⟩, hWF, hRP, hKP⟩ dX4_readClause_160
                    · skip
                      have tc_375 := ti_eq c_375
                      refine lv_iconst (v := 0) G0.1 G0.2.1 dX4_readClause_138 (by decide) ?_
                      exact py_iret G0 hr rfl hlk hw ⟨⟨by omega, by omega⟩, hWF, hRP, hKP⟩ dX4_readClause_139
                  · skip
                    have tc_354 := ti_eq c_354
                    refine lv_iconst (v := 0) G0.1 G0.2.1 dX4_readClause_106 (by decide) ?_
                    exact py_iret G0 hr rfl hlk hw ⟨⟨by omega, by omega⟩, hWF, hRP, hKP⟩ dX4_readClause_107
              · skip
                have tc_329 := ti_eq c_329
                refine lv_aload_n G0.1 G0.2.1 dX4_readClause_74 rfl (lv_at hl 2 rfl) ?_
                refine py_get (C := RX4) (T := TX4) (N := 1) (k := 0) (v := .ref r_228) G0 hw in_X4_readClause_X4 rfl hr_230 (by decide) (by decide +kernel) rfl dX4_readClause_75 ?_
                refine lv_bipush (v := 59) G0.1 G0.2.1 dX4_readClause_78 (by decide) ?_
                refine lv_iconst (v := 0) G0.1 G0.2.1 dX4_readClause_80 (by decide) ?_
                obtain ⟨t_396, t_397⟩ := wt_3 hG ty_229
                obtain ⟨v_398, hr_400, b_399⟩ := wg_3 hWF ty_229
                refine py_callv hw (va_runV (As := [.int 59, .int 0]) (rest := []) G0 (c_X3_add l E G L_314 f_315 H_324.size r_228 59 0 hG hWF ty_229) (cwV 2 G0.2.2.2.2 g_X4_readClause_X3_add_46 rfl rfl rfl (by decide +kernel) ⟨(Nat.le_of_ble_eq_true rfl), (Nat.le_of_ble_eq_true rfl)⟩) (py_preV hw (C := RX3) (T := TX3) (N := 3) rfl hr_400) rfl rfl hl.1 rfl (lv_room (Nat.le_of_ble_eq_true rfl)) dX4_readClause_81 ⟨(Nat.le_of_ble_eq_true rfl), (Nat.le_of_ble_eq_true rfl)⟩) (fun L_401 f_402 H_403 locs hp_404 hw => ?_)
                obtain ⟨hWF, hq_406, kp_407⟩ := hp_404
                have hRP := hRP.trans hq_406
                have hKP := hKP.trans kp_407 (by decide) (by decide)
                have hr_230 := kp_at kp_407 hWF Th (by decide) (by decide) (by decide) hr_230
                refine lv_iconst (v := 1) G0.1 G0.2.1 dX4_readClause_84 (by decide) ?_
                exact py_iret G0 hr rfl hlk hw ⟨⟨by omega, by omega⟩, hWF, hRP, hKP⟩ dX4_readClause_85
          · skip
            have tc_239 := ti_eq c_239
            refine lv_iconst (v := 0) G0.1 G0.2.1 dX4_readClause_58 (by decide) ?_
            exact py_iret G0 hr rfl hlk hw ⟨⟨by omega, by omega⟩, hWF, hRP, hKP⟩ dX4_readClause_59
      refine lv_icmp_eq (tgt := 41) G0.1 G0.2.1 dX4_readClause_28 (by decide) (fun c_408 => ?_) (fun c_408 => ?_)
      · skip
        have tc_408 := ti_eq c_408
        refine lv_iconst (v := 0) G0.1 G0.2.1 dX4_readClause_41 (by decide) ?_
        exact jn_42 0 _ _ ls ⟨by omega, by omega⟩ hw (lv_sub hl [0, 1, 2] rfl)
      · skip
        have tc_408 := ti_ne c_408
        refine lv_iload_n G0.1 G0.2.1 dX4_readClause_31 rfl (lv_at hl 0 rfl) ?_
        refine lv_bipush (v := 40) G0.1 G0.2.1 dX4_readClause_32 (by decide) ?_
        refine lv_icmp_eq (tgt := 41) G0.1 G0.2.1 dX4_readClause_34 (by decide) (fun c_409 => ?_) (fun c_409 => ?_)
        · skip
          have tc_409 := ti_eq c_409
          refine lv_iconst (v := 0) G0.1 G0.2.1 dX4_readClause_41 (by decide) ?_
          exact jn_42 0 _ _ ls ⟨by omega, by omega⟩ hw (lv_sub hl [0, 1, 2] rfl)
        · skip
          have tc_409 := ti_ne c_409
          refine lv_iconst (v := 1) G0.1 G0.2.1 dX4_readClause_37 (by decide) ?_
          refine lv_goto (tgt := 42) G0.1 G0.2.1 dX4_readClause_38 (by decide) ?_
          exact jn_42 1 _ _ ls ⟨by omega, by omega⟩ hw (lv_sub hl [0, 1, 2] rfl)
    · skip
      have tc_33 := ti_eq c_33
      refine lv_iconst (v := 0) G0.1 G0.2.1 dX4_readClause_18 (by decide) ?_
      exact py_iret G0 hr rfl hlk hw ⟨⟨by omega, by omega⟩, hWF, hRP, hKP⟩ dX4_readClause_19

def w_X4_faultOf : List Cond := .code yX4_faultOf cX4_faultOf 4 (some .int) :: ([Cond.fieldLink RX4 18 "HeadYear$Tape" "at" "I", Cond.fieldLink RX4 12 "HeadYear$LawReader" "draft" "LHeadYear$Law;", Cond.fieldLink RX4 24 "HeadYear$Law" "length" "I", Cond.methodLink RX4 27 yX4_readClause, Cond.instanceMethod yX4_readClause, Cond.selects RX4 yX4_readClause yX4_readClause, Cond.initialized RX4, Cond.methodLink RX4 35 yX8_next, Cond.instanceMethod yX8_next, Cond.selects RX8 yX8_next yX8_next, Cond.initialized RX8, Cond.methodLink RX4 31 yX8_take, Cond.instanceMethod yX8_take, Cond.selects RX8 yX8_take yX8_take] ++ (u_ws RX8 TX8 4 ++ (u_ws RX4 TX4 1 ++ (u_ws RX3 TX3 3 ++ (w_X4_readClause ++ (w_X8_next ++ (w_X8_take ++ ([]))))))))
theorem in_X4_faultOf_X8 : ∀ w ∈ u_ws RX8 TX8 4, w ∈ w_X4_faultOf := fun _ h => List.mem_cons_of_mem _ (List.mem_append_right _ (List.mem_append_left _ h))
theorem in_X4_faultOf_X4 : ∀ w ∈ u_ws RX4 TX4 1, w ∈ w_X4_faultOf := fun _ h => List.mem_cons_of_mem _ (List.mem_append_right _ (List.mem_append_right _ (List.mem_append_left _ h)))
theorem in_X4_faultOf_X3 : ∀ w ∈ u_ws RX3 TX3 3, w ∈ w_X4_faultOf := fun _ h => List.mem_cons_of_mem _ (List.mem_append_right _ (List.mem_append_right _ (List.mem_append_right _ (List.mem_append_left _ h))))
theorem gg_X4_faultOf_X4_readClause : GoodIn w_X4_faultOf w_X4_readClause := goodIn_sub (fun _ h => List.mem_cons_of_mem _ (List.mem_append_right _ (List.mem_append_right _ (List.mem_append_right _ (List.mem_append_right _ (List.mem_append_left _ h)))))) (by decide +kernel)
theorem gg_X4_faultOf_X8_next : GoodIn w_X4_faultOf w_X8_next := goodIn_sub (fun _ h => List.mem_cons_of_mem _ (List.mem_append_right _ (List.mem_append_right _ (List.mem_append_right _ (List.mem_append_right _ (List.mem_append_right _ (List.mem_append_left _ h))))))) (by decide +kernel)
theorem gg_X4_faultOf_X8_take : GoodIn w_X4_faultOf w_X8_take := goodIn_sub (fun _ h => List.mem_cons_of_mem _ (List.mem_append_right _ (List.mem_append_right _ (List.mem_append_right _ (List.mem_append_right _ (List.mem_append_right _ (List.mem_append_right _ (List.mem_append_left _ h)))))))) (by decide +kernel)
theorem g_X4_faultOf_X4_readClause_27 : GoodIn w_X4_faultOf (wsV RX4 27 RX4 yX4_readClause w_X4_readClause) := goodIn_app (goodIn_of _ (by decide +kernel)) gg_X4_faultOf_X4_readClause
theorem g_X4_faultOf_X8_next_35 : GoodIn w_X4_faultOf (wsV RX4 35 RX8 yX8_next w_X8_next) := goodIn_app (goodIn_of _ (by decide +kernel)) gg_X4_faultOf_X8_next
theorem g_X4_faultOf_X8_take_31 : GoodIn w_X4_faultOf (wsV RX4 31 RX8 yX8_take w_X8_take) := goodIn_app (goodIn_of _ (by decide +kernel)) gg_X4_faultOf_X8_take
set_option maxHeartbeats 4000000 in
set_option maxRecDepth 100000 in
theorem c_X4_faultOf (l : Launch) (E : py_E) (G : wf_G) (L : List Nat) (f : py_F) (sz : Nat) (h : Nat) (t : Nat) (hG : GT G) (hWF : WF E G L f) (Th : G.1 h = 5) (Tt : G.1 t = 9) : Met l yX4_faultOf w_X4_faultOf ({ frames := 61, cells := 0, slots := 0, locals := 3292 }) (py_Pc E [.ref h, .ref t] L f sz) (py_Qi E L f sz (fun r L1 f1 => ((-1) ≤ r.toInt ∧ r.toInt ≤ 160) ∧ WF E G L1 f1 ∧ RP E G f f1 ∧ KP G [9, 4, 20] false f f1)) 0 0 (va_A (va_pl L f) sz) := by
  refine Met.ofW (cc := cX4_faultOf) (maxL := 4) (ret := (some .int)) (by decide) rfl ?_
  intro p e s m args below meth c s₁ B hml hv
  obtain ⟨rfl, rfl, hw⟩ := py_start hv
  have G0 : CallFix p m c cX4_faultOf 4 s _ w_X4_faultOf RX4 := ⟨B.exec, B.bytes, hml, findClass_of_methodNamed B.named, atoms_spec (ws := w_X4_faultOf) B.pre⟩
  have hr := B.returns
  have hlk := B.notSynchronized
  have kcm1 : (-1 : Int32).toInt = -1 := rfl
  have kc0 : (0 : Int32).toInt = 0 := rfl
  have kc1 : (1 : Int32).toInt = 1 := rfl
  have kc59 : (59 : Int32).toInt = 59 := rfl
  have kc160 : (160 : Int32).toInt = 160 := rfl
  have hl := lv_entry ([.ref h, .ref t]) (n := 4) (Nat.le_of_ble_eq_true rfl)
  rw [lg_entry_eq]
  generalize (lg_sl ([.ref h, .ref t]) ++ List.replicate (4 - (lg_sl ([.ref h, .ref t])).length) Slot.unset).toArray = ls at hl ⊢
  have hl : lv_has ls 4 [(0, .ref h), (1, .ref t)] := hl
  have hRP : RP E G f f := RP.refl
  have hKP : KP G [9, 4, 20] false f f := KP.refl
  refine lv_aload_n G0.1 G0.2.1 dX4_faultOf_0 rfl (lv_at hl 1 rfl) ?_
  refine lv_iconst (v := 0) G0.1 G0.2.1 dX4_faultOf_1 (by decide) ?_
  have t_1 := wt_8 hG Tt
  obtain ⟨v_2, v_3, v_4, hr_7, b_5, b_6⟩ := wg_8 hWF Tt
  have bv_4 := wf_free v_4
  have tq_8 := tp_eq hr_7
  refine py_put (C := RX8) (T := TX8) (N := 4) (k := 2) (v := .int 0) (fs' := [.ref (G.2 t 0), .int v_2, .int 0, .int v_4]) (ty0 := tyX8) G0 hw tyX8_ok nmX8 in_X4_faultOf_X8 rfl hr_7 (by decide) (by decide +kernel) rfl rfl rfl rfl (Nat.le_of_ble_eq_true rfl) rfl dX4_faultOf_2 (fun f_9 H_10 locs h_11 x_12 hw => ?_)
  have hKP := hKP.upd hWF x_12 Tt (Or.inl (by decide))
  have hRP := hRP.trans (rp_upd hG hWF x_12 hr_7.2 h_11.2 (rp_code hG Tt (by decide)) rfl)
  have hWF := wf_upd hWF h_11 x_12 (by rw [Tt]; exact ⟨v_2, 0, v_4, rfl, ⟨by omega, by omega⟩, ⟨by omega, by omega⟩⟩)
  have tq_13 := tp_eq h_11
  refine lv_aload_n G0.1 G0.2.1 dX4_faultOf_5 rfl (lv_at hl 0 rfl) ?_
  obtain ⟨r_14, hr_16, ty_15⟩ := wg_4 hWF Th
  refine py_get (C := RX4) (T := TX4) (N := 1) (k := 0) (v := .ref r_14) G0 hw in_X4_faultOf_X4 rfl hr_16 (by decide) (by decide +kernel) rfl dX4_faultOf_6 ?_
  refine lv_iconst (v := 0) G0.1 G0.2.1 dX4_faultOf_9 (by decide) ?_
  obtain ⟨t_17, t_18⟩ := wt_3 hG ty_15
  obtain ⟨v_19, hr_21, b_20⟩ := wg_3 hWF ty_15
  refine py_put (C := RX3) (T := TX3) (N := 3) (k := 2) (v := .int 0) (fs' := [.ref (G.2 r_14 0), .ref (G.2 r_14 1), .int 0]) (ty0 := tyX3) G0 hw tyX3_ok nmX3 in_X4_faultOf_X3 rfl hr_21 (by decide) (by decide +kernel) rfl rfl rfl rfl (Nat.le_of_ble_eq_true rfl) rfl dX4_faultOf_10 (fun f_22 H_23 locs h_24 x_25 hw => ?_)
  have hKP := hKP.upd hWF x_25 ty_15 (Or.inl (by decide))
  have hRP := hRP.trans (rp_upd hG hWF x_25 hr_21.2 h_24.2 (rp_code hG ty_15 (by decide)) rfl)
  have hWF := wf_upd hWF h_24 x_25 (by rw [ty_15]; exact ⟨0, rfl, ⟨by omega, by omega⟩⟩)
  have h_11 := h_11.ext x_25 (py_ne_kind h_11 hr_21 (by decide))
  have tq_26 := tp_eq h_11
  have hr_16 := hr_16.ext x_25 (py_ne_kind hr_16 hr_21 (by decide))
  refine lv_aload_n G0.1 G0.2.1 dX4_faultOf_13 rfl (lv_at hl 0 rfl) ?_
  refine lv_aload_n G0.1 G0.2.1 dX4_faultOf_14 rfl (lv_at hl 1 rfl) ?_
  refine py_calli hw (va_runV (As := [.ref t]) (rest := []) G0 (c_X4_readClause l E G L f_22 H_23.size h t hG hWF Th Tt) (cwV 1 G0.2.2.2.2 g_X4_faultOf_X4_readClause_27 rfl rfl rfl (by decide +kernel) ⟨(Nat.le_of_ble_eq_true rfl), (Nat.le_of_ble_eq_true rfl)⟩) (py_preV hw (C := RX4) (T := TX4) (N := 1) rfl hr_16) rfl rfl hl.1 rfl (lv_room (Nat.le_of_ble_eq_true rfl)) dX4_faultOf_15 ⟨(Nat.le_of_ble_eq_true rfl), (Nat.le_of_ble_eq_true rfl)⟩) (fun r_31 L_27 f_28 H_29 locs hp_30 hw => ?_)
  obtain ⟨b_32, hWF, hq_33, kp_34⟩ := hp_30
  have hRP := hRP.trans hq_33
  have hKP := hKP.trans kp_34 (by decide) (by decide)
  have hr_16 := kp_at kp_34 hWF Th (by decide) (by decide) (by decide) hr_16
  refine lv_istore_n (lv' := [(2, .int r_31), (0, .ref h), (1, .ref t)]) G0.1 G0.2.1 dX4_faultOf_18 rfl hl (by decide) rfl (fun ls hl => ?_)
  refine lv_iconst (v := 0) G0.1 G0.2.1 dX4_faultOf_19 (by decide) ?_
  refine lv_istore_n (lv' := [(3, .int 0), (2, .int r_31), (0, .ref h), (1, .ref t)]) G0.1 G0.2.1 dX4_faultOf_20 rfl hl (by decide) rfl (fun ls hl => ?_)
  have lo_21 : ∀ n_21 : Nat, ∀ (v_35 : Int32) (v_36 : Int32) (L_j21 : List Nat) (f_j21 : py_F) (H_j21 : Heap) (locs : List Loc) (ls : Array Slot), (2147483647 - v_35.toInt).toNat = n_21 → (0 ≤ v_35.toInt ∧ v_35.toInt ≤ 2147483647) → WF E G L_j21 f_j21 → RP E G f f_j21 → KP G [9, 4, 20] false f f_j21 → py_W E (va_A (va_pl L f) s.heap.size) s L_j21 f_j21 H_j21 locs → lv_has ls 4 [(3, .int v_35), (2, .int v_36), (0, .ref h), (1, .ref t)] → W p l e (headSpec w_X4_faultOf ({ frames := 61, cells := 0, slots := 0, locals := 3292 })).room s m ([.ref h, .ref t] : List Value).toArray below meth c H_j21 locs 0 0 (MQ below (py_Qi E L f s.heap.size (fun r L1 f1 => ((-1) ≤ r.toInt ∧ r.toInt ≤ 160) ∧ WF E G L1 f1 ∧ RP E G f f1 ∧ KP G [9, 4, 20] false f f1)) ([.ref h, .ref t] : List Value).toArray s 0 0 (va_A (va_pl L f) s.heap.size)) (F0 m 21 ls []) := by
    intro n_21
    induction n_21 using Nat.strongRecOn with
    | _ n_21 ih_21 =>
      intro v_35 v_36 L_j21 f_j21 H_j21 locs ls hn_21 bv_35 hWF hRP hKP hw hl
      refine lv_iload_n G0.1 G0.2.1 dX4_faultOf_21 rfl (lv_at hl 0 rfl) ?_
      refine lv_sipush (v := 160) G0.1 G0.2.1 dX4_faultOf_22 (by decide) ?_
      refine lv_icmp_ge (tgt := 53) G0.1 G0.2.1 dX4_faultOf_25 (by decide) (fun c_37 => ?_) (fun c_37 => ?_)
      · skip
        have tc_37 := ti_le c_37
        refine lv_iload_n G0.1 G0.2.1 dX4_faultOf_53 rfl (lv_at hl 1 rfl) ?_
        refine lv_if_eq (tgt := 68) G0.1 G0.2.1 dX4_faultOf_54 (by decide) (fun c_38 => ?_) (fun c_38 => ?_)
        · skip
          have tc_38 := ti_eq c_38
          refine lv_aload_n G0.1 G0.2.1 dX4_faultOf_68 rfl (lv_at hl 3 rfl) ?_
          obtain ⟨v_39, v_40, v_41, hr_44, b_42, b_43⟩ := wg_8 hWF Tt
          have bv_41 := wf_free v_41
          have tq_45 := tp_eq hr_44
          refine py_get (C := RX8) (T := TX8) (N := 4) (k := 2) (v := .int v_40) G0 hw in_X4_faultOf_X8 rfl hr_44 (by decide) (by decide +kernel) rfl dX4_faultOf_69 ?_
          exact py_iret G0 hr rfl hlk hw ⟨⟨by omega, by omega⟩, hWF, hRP, hKP⟩ dX4_faultOf_72
        · skip
          have tc_38 := ti_ne c_38
          refine lv_aload_n G0.1 G0.2.1 dX4_faultOf_57 rfl (lv_at hl 3 rfl) ?_
          obtain ⟨v_46, v_47, v_48, hr_51, b_49, b_50⟩ := wg_8 hWF Tt
          have bv_48 := wf_free v_48
          have tq_52 := tp_eq hr_51
          refine py_calli hw (va_runV (As := []) (rest := []) G0 (c_X8_next l E G L_j21 f_j21 H_j21.size t hG hWF Tt) (cwV 0 G0.2.2.2.2 g_X4_faultOf_X8_next_35 rfl rfl rfl (by decide +kernel) ⟨(Nat.le_of_ble_eq_true rfl), (Nat.le_of_ble_eq_true rfl)⟩) (py_preV hw (C := RX8) (T := TX8) (N := 4) rfl hr_51) rfl rfl hl.1 rfl (lv_room (Nat.le_of_ble_eq_true rfl)) dX4_faultOf_58 ⟨(Nat.le_of_ble_eq_true rfl), (Nat.le_of_ble_eq_true rfl)⟩) (fun r_57 L_53 f_54 H_55 locs hp_56 hw => ?_)
          obtain ⟨en_58, hWF, hq_59, kp_60⟩ := hp_56
          have hRP := hRP.trans hq_59
          have hKP := hKP.trans kp_60 (by decide) (by decide)
          have br_57 := wf_free r_57
          refine lv_if_ne (tgt := 68) G0.1 G0.2.1 dX4_faultOf_61 (by decide) (fun c_61 => ?_) (fun c_61 => ?_)
          · skip
            have tc_61 := ti_ne c_61
            refine lv_aload_n G0.1 G0.2.1 dX4_faultOf_68 rfl (lv_at hl 3 rfl) ?_
            obtain ⟨v_62, v_63, v_64, hr_67, b_65, b_66⟩ := wg_8 hWF Tt
            have bv_64 := wf_free v_64
            have tq_68 := tp_eq hr_67
            refine py_get (C := RX8) (T := TX8) (N := 4) (k := 2) (v := .int v_63) G0 hw in_X4_faultOf_X8 rfl hr_67 (by decide) (by decide +kernel) rfl dX4_faultOf_69 ?_
            exact py_iret G0 hr rfl hlk hw ⟨⟨by omega, by omega⟩, hWF, hRP, hKP⟩ dX4_faultOf_72
          · skip
            have tc_61 := ti_eq c_61
            refine lv_iconst (v := (-1)) G0.1 G0.2.1 dX4_faultOf_64 (by decide) ?_
            refine lv_goto (tgt := 72) G0.1 G0.2.1 dX4_faultOf_65 (by decide) ?_
            exact py_iret G0 hr rfl hlk hw ⟨⟨by omega, by omega⟩, hWF, hRP, hKP⟩ dX4_faultOf_72
      · skip
        have tc_37 := ti_nle c_37
        refine lv_iload_n G0.1 G0.2.1 dX4_faultOf_28 rfl (lv_at hl 1 rfl) ?_
        refine lv_if_eq (tgt := 53) G0.1 G0.2.1 dX4_faultOf_29 (by decide) (fun c_69 => ?_) (fun c_69 => ?_)
        · skip
          have tc_69 := ti_eq c_69
          refine lv_iload_n G0.1 G0.2.1 dX4_faultOf_53 rfl (lv_at hl 1 rfl) ?_
          refine lv_if_eq (tgt := 68) G0.1 G0.2.1 dX4_faultOf_54 (by decide) (fun c_70 => ?_) (fun c_70 => ?_)
          · skip
            have tc_70 := ti_eq c_70
            refine lv_aload_n G0.1 G0.2.1 dX4_faultOf_68 rfl (lv_at hl 3 rfl) ?_
            obtain ⟨v_71, v_72, v_73, hr_76, b_74, b_75⟩ := wg_8 hWF Tt
            have bv_73 := wf_free v_73
            have tq_77 := tp_eq hr_76
            refine py_get (C := RX8) (T := TX8) (N := 4) (k := 2) (v := .int v_72) G0 hw in_X4_faultOf_X8 rfl hr_76 (by decide) (by decide +kernel) rfl dX4_faultOf_69 ?_
            exact py_iret G0 hr rfl hlk hw ⟨⟨by omega, by omega⟩, hWF, hRP, hKP⟩ dX4_faultOf_72
          · skip
            have tc_70 := ti_ne c_70
            refine lv_aload_n G0.1 G0.2.1 dX4_faultOf_57 rfl (lv_at hl 3 rfl) ?_
            obtain ⟨v_78, v_79, v_80, hr_83, b_81, b_82⟩ := wg_8 hWF Tt
            have bv_80 := wf_free v_80
            have tq_84 := tp_eq hr_83
            refine py_calli hw (va_runV (As := []) (rest := []) G0 (c_X8_next l E G L_j21 f_j21 H_j21.size t hG hWF Tt) (cwV 0 G0.2.2.2.2 g_X4_faultOf_X8_next_35 rfl rfl rfl (by decide +kernel) ⟨(Nat.le_of_ble_eq_true rfl), (Nat.le_of_ble_eq_true rfl)⟩) (py_preV hw (C := RX8) (T := TX8) (N := 4) rfl hr_83) rfl rfl hl.1 rfl (lv_room (Nat.le_of_ble_eq_true rfl)) dX4_faultOf_58 ⟨(Nat.le_of_ble_eq_true rfl), (Nat.le_of_ble_eq_true rfl)⟩) (fun r_89 L_85 f_86 H_87 locs hp_88 hw => ?_)
            obtain ⟨en_90, hWF, hq_91, kp_92⟩ := hp_88
            have hRP := hRP.trans hq_91
            have hKP := hKP.trans kp_92 (by decide) (by decide)
            have br_89 := wf_free r_89
            refine lv_if_ne (tgt := 68) G0.1 G0.2.1 dX4_faultOf_61 (by decide) (fun c_93 => ?_) (fun c_93 => ?_)
            · skip
              have tc_93 := ti_ne c_93
              refine lv_aload_n G0.1 G0.2.1 dX4_faultOf_68 rfl (lv_at hl 3 rfl) ?_
              obtain ⟨v_94, v_95, v_96, hr_99, b_97, b_98⟩ := wg_8 hWF Tt
              have bv_96 := wf_free v_96
              have tq_100 := tp_eq hr_99
              refine py_get (C := RX8) (T := TX8) (N := 4) (k := 2) (v := .int v_95) G0 hw in_X4_faultOf_X8 rfl hr_99 (by decide) (by decide +kernel) rfl dX4_faultOf_69 ?_
              exact py_iret G0 hr rfl hlk hw ⟨⟨by omega, by omega⟩, hWF, hRP, hKP⟩ dX4_faultOf_72
            · skip
              have tc_93 := ti_eq c_93
              refine lv_iconst (v := (-1)) G0.1 G0.2.1 dX4_faultOf_64 (by decide) ?_
              refine lv_goto (tgt := 72) G0.1 G0.2.1 dX4_faultOf_65 (by decide) ?_
              exact py_iret G0 hr rfl hlk hw ⟨⟨by omega, by omega⟩, hWF, hRP, hKP⟩ dX4_faultOf_72
        · skip
          have tc_69 := ti_ne c_69
          refine lv_aload_n G0.1 G0.2.1 dX4_faultOf_32 rfl (lv_at hl 3 rfl) ?_
          refine lv_bipush (v := 59) G0.1 G0.2.1 dX4_faultOf_33 (by decide) ?_
          obtain ⟨v_101, v_102, v_103, hr_106, b_104, b_105⟩ := wg_8 hWF Tt
          have bv_103 := wf_free v_103
          have tq_107 := tp_eq hr_106
          refine py_calli hw (va_runV (As := [.int 59]) (rest := []) G0 (c_X8_take l E G L_j21 f_j21 H_j21.size t 59 hG hWF Tt ⟨by omega, by omega⟩) (cwV 1 G0.2.2.2.2 g_X4_faultOf_X8_take_31 rfl rfl rfl (by decide +kernel) ⟨(Nat.le_of_ble_eq_true rfl), (Nat.le_of_ble_eq_true rfl)⟩) (py_preV hw (C := RX8) (T := TX8) (N := 4) rfl hr_106) rfl rfl hl.1 rfl (lv_room (Nat.le_of_ble_eq_true rfl)) dX4_faultOf_35 ⟨(Nat.le_of_ble_eq_true rfl), (Nat.le_of_ble_eq_true rfl)⟩) (fun r_112 L_108 f_109 H_110 locs hp_111 hw => ?_)
          obtain ⟨b_113, hWF, hq_114, kp_115⟩ := hp_111
          have hRP := hRP.trans hq_114
          have hKP := hKP.trans kp_115 (by decide) (by decide)
          refine lv_if_eq (tgt := 53) G0.1 G0.2.1 dX4_faultOf_38 (by decide) (fun c_116 => ?_) (fun c_116 => ?_)
          · skip
            have tc_116 := ti_eq c_116
            refine lv_iload_n G0.1 G0.2.1 dX4_faultOf_53 rfl (lv_at hl 1 rfl) ?_
            refine lv_if_eq (tgt := 68) G0.1 G0.2.1 dX4_faultOf_54 (by decide) (fun c_117 => ?_) (fun c_117 => ?_)
            · skip
              have tc_117 := ti_eq c_117
              refine lv_aload_n G0.1 G0.2.1 dX4_faultOf_68 rfl (lv_at hl 3 rfl) ?_
              obtain ⟨v_118, v_119, v_120, hr_123, b_121, b_122⟩ := wg_8 hWF Tt
              have bv_120 := wf_free v_120
              have tq_124 := tp_eq hr_123
              refine py_get (C := RX8) (T := TX8) (N := 4) (k := 2) (v := .int v_119) G0 hw in_X4_faultOf_X8 rfl hr_123 (by decide) (by decide +kernel) rfl dX4_faultOf_69 ?_
              exact py_iret G0 hr rfl hlk hw ⟨⟨by omega, by omega⟩, hWF, hRP, hKP⟩ dX4_faultOf_72
            · skip
              have tc_117 := ti_ne c_117
              refine lv_aload_n G0.1 G0.2.1 dX4_faultOf_57 rfl (lv_at hl 3 rfl) ?_
              obtain ⟨v_125, v_126, v_127, hr_130, b_128, b_129⟩ := wg_8 hWF Tt
              have bv_127 := wf_free v_127
              have tq_131 := tp_eq hr_130
              refine py_calli hw (va_runV (As := []) (rest := []) G0 (c_X8_next l E G L_108 f_109 H_110.size t hG hWF Tt) (cwV 0 G0.2.2.2.2 g_X4_faultOf_X8_next_35 rfl rfl rfl (by decide +kernel) ⟨(Nat.le_of_ble_eq_true rfl), (Nat.le_of_ble_eq_true rfl)⟩) (py_preV hw (C := RX8) (T := TX8) (N := 4) rfl hr_130) rfl rfl hl.1 rfl (lv_room (Nat.le_of_ble_eq_true rfl)) dX4_faultOf_58 ⟨(Nat.le_of_ble_eq_true rfl), (Nat.le_of_ble_eq_true rfl)⟩) (fun r_136 L_132 f_133 H_134 locs hp_135 hw => ?_)
              obtain ⟨en_137, hWF, hq_138, kp_139⟩ := hp_135
              have hRP := hRP.trans hq_138
              have hKP := hKP.trans kp_139 (by decide) (by decide)
              have br_136 := wf_free r_136
              refine lv_if_ne (tgt := 68) G0.1 G0.2.1 dX4_faultOf_61 (by decide) (fun c_140 => ?_) (fun c_140 => ?_)
              · skip
                have tc_140 := ti_ne c_140
                refine lv_aload_n G0.1 G0.2.1 dX4_faultOf_68 rfl (lv_at hl 3 rfl) ?_
                obtain ⟨v_141, v_142, v_143, hr_146, b_144, b_145⟩ := wg_8 hWF Tt
                have bv_143 := wf_free v_143
                have tq_147 := tp_eq hr_146
                refine py_get (C := RX8) (T := TX8) (N := 4) (k := 2) (v := .int v_142) G0 hw in_X4_faultOf_X8 rfl hr_146 (by decide) (by decide +kernel) rfl dX4_faultOf_69 ?_
                exact py_iret G0 hr rfl hlk hw ⟨⟨by omega, by omega⟩, hWF, hRP, hKP⟩ dX4_faultOf_72
              · skip
                have tc_140 := ti_eq c_140
                refine lv_iconst (v := (-1)) G0.1 G0.2.1 dX4_faultOf_64 (by decide) ?_
                refine lv_goto (tgt := 72) G0.1 G0.2.1 dX4_faultOf_65 (by decide) ?_
                exact py_iret G0 hr rfl hlk hw ⟨⟨by omega, by omega⟩, hWF, hRP, hKP⟩ dX4_faultOf_72
          · skip
            have tc_116 := ti_ne c_116
            refine lv_aload_n G0.1 G0.2.1 dX4_faultOf_41 rfl (lv_at hl 2 rfl) ?_
            refine lv_aload_n G0.1 G0.2.1 dX4_faultOf_42 rfl (lv_at hl 3 rfl) ?_
            obtain ⟨r_148, hr_150, ty_149⟩ := wg_4 hWF Th
            refine py_calli hw (va_runV (As := [.ref t]) (rest := []) G0 (c_X4_readClause l E G L_108 f_109 H_110.size h t hG hWF Th Tt) (cwV 1 G0.2.2.2.2 g_X4_faultOf_X4_readClause_27 rfl rfl rfl (by decide +kernel) ⟨(Nat.le_of_ble_eq_true rfl), (Nat.le_of_ble_eq_true rfl)⟩) (py_preV hw (C := RX4) (T := TX4) (N := 1) rfl hr_150) rfl rfl hl.1 rfl (lv_room (Nat.le_of_ble_eq_true rfl)) dX4_faultOf_43 ⟨(Nat.le_of_ble_eq_true rfl), (Nat.le_of_ble_eq_true rfl)⟩) (fun r_155 L_151 f_152 H_153 locs hp_154 hw => ?_)
            obtain ⟨b_156, hWF, hq_157, kp_158⟩ := hp_154
            have hRP := hRP.trans hq_157
            have hKP := hKP.trans kp_158 (by decide) (by decide)
            have hr_150 := kp_at kp_158 hWF Th (by decide) (by decide) (by decide) hr_150
            refine lv_istore_n (lv' := [(2, .int r_155), (3, .int v_35), (0, .ref h), (1, .ref t)]) G0.1 G0.2.1 dX4_faultOf_46 rfl hl (by decide) rfl (fun ls hl => ?_)
            obtain ⟨x_159, ex_159⟩ : ∃ y : Int32, y = v_35 + 1 := ⟨_, rfl⟩
            first | have tx_159 := ti_add ex_159 (by omega) (by omega) | skip
            refine lv_iinc (v := x_159) (lv' := [(3, .int x_159), (2, .int r_155), (0, .ref h), (1, .ref t)]) G0.1 G0.2.1 dX4_faultOf_47 hl (k := 1) rfl (show _ + (1 : Int32) = _ from ex_159.symm) (by decide) rfl (fun ls hl => ?_)
            refine lv_goto (tgt := 21) G0.1 G0.2.1 dX4_faultOf_50 (by decide) ?_
            exact ih_21 ((2147483647 - x_159.toInt).toNat) (by omega) x_159 r_155 L_151 f_152 _ _ ls rfl ⟨by omega, by omega⟩ hWF hRP hKP hw (lv_sub hl [0, 1, 2, 3] rfl)
  exact lo_21 _ 0 r_31 L_27 f_28 _ _ ls rfl ⟨by omega, by omega⟩ hWF hRP hKP hw (lv_sub hl [0, 1, 2, 3] rfl)
