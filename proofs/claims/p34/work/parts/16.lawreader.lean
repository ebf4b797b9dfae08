theorem dX4_faultOf_0 : decode cX4_faultOf 0 = .ok (.aload_n 1, 1) := by decide +kernel
theorem dX4_faultOf_1 : decode cX4_faultOf 1 = .ok (.iconst 0, 1) := by decide +kernel
theorem dX4_faultOf_2 : decode cX4_faultOf 2 = .ok (.putfield 18, 3) := by decide +kernel
theorem dX4_faultOf_5 : decode cX4_faultOf 5 = .ok (.aload_n 0, 1) := by decide +kernel
theorem dX4_faultOf_6 : decode cX4_faultOf 6 = .ok (.getfield 12, 3) := by decide +kernel
theorem dX4_faultOf_9 : decode cX4_faultOf 9 = .ok (.iconst 0, 1) := by decide +kernel
theorem dX4_faultOf_10 : decode cX4_faultOf 10 = .ok (.putfield 24, 3) := by decide +kernel
theorem dX4_faultOf_13 : decode cX4_faultOf 13 = .ok (.aload_n 0, 1) := by decide +kernel
theorem dX4_faultOf_14 : decode cX4_faultOf 14 = .ok (.aload_n 1, 1) := by decide +kernel
theorem dX4_faultOf_15 : decode cX4_faultOf 15 = .ok (.invokevirtual 27, 3) := by decide +kernel
theorem dX4_faultOf_18 : decode cX4_faultOf 18 = .ok (.istore_n 2, 1) := by decide +kernel
theorem dX4_faultOf_19 : decode cX4_faultOf 19 = .ok (.iconst 0, 1) := by decide +kernel
theorem dX4_faultOf_20 : decode cX4_faultOf 20 = .ok (.istore_n 3, 1) := by decide +kernel
theorem dX4_faultOf_21 : decode cX4_faultOf 21 = .ok (.iload_n 3, 1) := by decide +kernel
theorem dX4_faultOf_22 : decode cX4_faultOf 22 = .ok (.sipush 160, 3) := by decide +kernel
theorem dX4_faultOf_25 : decode cX4_faultOf 25 = .ok (.if_icmp .ge 28, 3) := by decide +kernel
theorem dX4_faultOf_28 : decode cX4_faultOf 28 = .ok (.iload_n 2, 1) := by decide +kernel
theorem dX4_faultOf_29 : decode cX4_faultOf 29 = .ok (.ifCond .eq 24, 3) := by decide +kernel
theorem dX4_faultOf_32 : decode cX4_faultOf 32 = .ok (.aload_n 1, 1) := by decide +kernel
theorem dX4_faultOf_33 : decode cX4_faultOf 33 = .ok (.bipush 59, 2) := by decide +kernel
theorem dX4_faultOf_35 : decode cX4_faultOf 35 = .ok (.invokevirtual 31, 3) := by decide +kernel
theorem dX4_faultOf_38 : decode cX4_faultOf 38 = .ok (.ifCond .eq 15, 3) := by decide +kernel
theorem dX4_faultOf_41 : decode cX4_faultOf 41 = .ok (.aload_n 0, 1) := by decide +kernel
theorem dX4_faultOf_42 : decode cX4_faultOf 42 = .ok (.aload_n 1, 1) := by decide +kernel
theorem dX4_faultOf_43 : decode cX4_faultOf 43 = .ok (.invokevirtual 27, 3) := by decide +kernel
theorem dX4_faultOf_46 : decode cX4_faultOf 46 = .ok (.istore_n 2, 1) := by decide +kernel
theorem dX4_faultOf_47 : decode cX4_faultOf 47 = .ok (.iinc 3 1, 3) := by decide +kernel
theorem dX4_faultOf_50 : decode cX4_faultOf 50 = .ok (.goto (-29), 3) := by decide +kernel
theorem dX4_faultOf_53 : decode cX4_faultOf 53 = .ok (.iload_n 2, 1) := by decide +kernel
theorem dX4_faultOf_54 : decode cX4_faultOf 54 = .ok (.ifCond .eq 14, 3) := by decide +kernel
theorem dX4_faultOf_57 : decode cX4_faultOf 57 = .ok (.aload_n 1, 1) := by decide +kernel
theorem dX4_faultOf_58 : decode cX4_faultOf 58 = .ok (.invokevirtual 35, 3) := by decide +kernel
theorem dX4_faultOf_61 : decode cX4_faultOf 61 = .ok (.ifCond .ne 7, 3) := by decide +kernel
theorem dX4_faultOf_64 : decode cX4_faultOf 64 = .ok (.iconst (-1), 1) := by decide +kernel
theorem dX4_faultOf_65 : decode cX4_faultOf 65 = .ok (.goto 7, 3) := by decide +kernel
theorem dX4_faultOf_68 : decode cX4_faultOf 68 = .ok (.aload_n 1, 1) := by decide +kernel
theorem dX4_faultOf_69 : decode cX4_faultOf 69 = .ok (.getfield 18, 3) := by decide +kernel
theorem dX4_faultOf_72 : decode cX4_faultOf 72 = .ok (.ireturn, 1) := by decide +kernel
theorem dX4_readClause_0 : decode cX4_readClause 0 = .ok (.aload_n 1, 1) := by decide +kernel
theorem dX4_readClause_1 : decode cX4_readClause 1 = .ok (.bipush 121, 2) := by decide +kernel
theorem dX4_readClause_3 : decode cX4_readClause 3 = .ok (.invokevirtual 31, 3) := by decide +kernel
theorem dX4_readClause_6 : decode cX4_readClause 6 = .ok (.ifCond .eq 12, 3) := by decide +kernel
theorem dX4_readClause_9 : decode cX4_readClause 9 = .ok (.aload_n 1, 1) := by decide +kernel
theorem dX4_readClause_10 : decode cX4_readClause 10 = .ok (.bipush 58, 2) := by decide +kernel
theorem dX4_readClause_12 : decode cX4_readClause 12 = .ok (.invokevirtual 31, 3) := by decide +kernel
theorem dX4_readClause_15 : decode cX4_readClause 15 = .ok (.ifCond .ne 5, 3) := by decide +kernel
theorem dX4_readClause_18 : decode cX4_readClause 18 = .ok (.iconst 0, 1) := by decide +kernel
theorem dX4_readClause_19 : decode cX4_readClause 19 = .ok (.ireturn, 1) := by decide +kernel
theorem dX4_readClause_20 : decode cX4_readClause 20 = .ok (.aload_n 1, 1) := by decide +kernel
theorem dX4_readClause_21 : decode cX4_readClause 21 = .ok (.invokevirtual 35, 3) := by decide +kernel
theorem dX4_readClause_24 : decode cX4_readClause 24 = .ok (.istore_n 2, 1) := by decide +kernel
theorem dX4_readClause_25 : decode cX4_readClause 25 = .ok (.iload_n 2, 1) := by decide +kernel
theorem dX4_readClause_26 : decode cX4_readClause 26 = .ok (.bipush 33, 2) := by decide +kernel
theorem dX4_readClause_28 : decode cX4_readClause 28 = .ok (.if_icmp .eq 13, 3) := by decide +kernel
theorem dX4_readClause_31 : decode cX4_readClause 31 = .ok (.iload_n 2, 1) := by decide +kernel
theorem dX4_readClause_32 : decode cX4_readClause 32 = .ok (.bipush 40, 2) := by decide +kernel
theorem dX4_readClause_34 : decode cX4_readClause 34 = .ok (.if_icmp .eq 7, 3) := by decide +kernel
theorem dX4_readClause_37 : decode cX4_readClause 37 = .ok (.iconst 1, 1) := by decide +kernel
theorem dX4_readClause_38 : decode cX4_readClause 38 = .ok (.goto 4, 3) := by decide +kernel
theorem dX4_readClause_41 : decode cX4_readClause 41 = .ok (.iconst 0, 1) := by decide +kernel
theorem dX4_readClause_42 : decode cX4_readClause 42 = .ok (.istore_n 3, 1) := by decide +kernel
theorem dX4_readClause_43 : decode cX4_readClause 43 = .ok (.iload_n 3, 1) := by decide +kernel
theorem dX4_readClause_44 : decode cX4_readClause 44 = .ok (.ifCond .eq 16, 3) := by decide +kernel
theorem dX4_readClause_47 : decode cX4_readClause 47 = .ok (.aload_n 0, 1) := by decide +kernel
theorem dX4_readClause_48 : decode cX4_readClause 48 = .ok (.aload_n 1, 1) := by decide +kernel
theorem dX4_readClause_49 : decode cX4_readClause 49 = .ok (.iconst 2, 1) := by decide +kernel
theorem dX4_readClause_50 : decode cX4_readClause 50 = .ok (.iconst 0, 1) := by decide +kernel
theorem dX4_readClause_51 : decode cX4_readClause 51 = .ok (.iconst 0, 1) := by decide +kernel
theorem dX4_readClause_52 : decode cX4_readClause 52 = .ok (.invokevirtual 39, 3) := by decide +kernel
theorem dX4_readClause_55 : decode cX4_readClause 55 = .ok (.ifCond .ne 5, 3) := by decide +kernel
theorem dX4_readClause_58 : decode cX4_readClause 58 = .ok (.iconst 0, 1) := by decide +kernel
theorem dX4_readClause_59 : decode cX4_readClause 59 = .ok (.ireturn, 1) := by decide +kernel
theorem dX4_readClause_60 : decode cX4_readClause 60 = .ok (.iload_n 3, 1) := by decide +kernel
theorem dX4_readClause_61 : decode cX4_readClause 61 = .ok (.ifCond .eq 25, 3) := by decide +kernel
theorem dX4_readClause_64 : decode cX4_readClause 64 = .ok (.aload_n 1, 1) := by decide +kernel
theorem dX4_readClause_65 : decode cX4_readClause 65 = .ok (.invokevirtual 35, 3) := by decide +kernel
theorem dX4_readClause_68 : decode cX4_readClause 68 = .ok (.invokestatic 43, 3) := by decide +kernel
theorem dX4_readClause_71 : decode cX4_readClause 71 = .ok (.ifCond .ne 15, 3) := by decide +kernel
theorem dX4_readClause_74 : decode cX4_readClause 74 = .ok (.aload_n 0, 1) := by decide +kernel
theorem dX4_readClause_75 : decode cX4_readClause 75 = .ok (.getfield 12, 3) := by decide +kernel
theorem dX4_readClause_78 : decode cX4_readClause 78 = .ok (.bipush 59, 2) := by decide +kernel
theorem dX4_readClause_80 : decode cX4_readClause 80 = .ok (.iconst 0, 1) := by decide +kernel
theorem dX4_readClause_81 : decode cX4_readClause 81 = .ok (.invokevirtual 46, 3) := by decide +kernel
theorem dX4_readClause_84 : decode cX4_readClause 84 = .ok (.iconst 1, 1) := by decide +kernel
theorem dX4_readClause_85 : decode cX4_readClause 85 = .ok (.ireturn, 1) := by decide +kernel
theorem dX4_readClause_86 : decode cX4_readClause 86 = .ok (.aload_n 0, 1) := by decide +kernel
theorem dX4_readClause_87 : decode cX4_readClause 87 = .ok (.aload_n 1, 1) := by decide +kernel
theorem dX4_readClause_88 : decode cX4_readClause 88 = .ok (.iconst 0, 1) := by decide +kernel
theorem dX4_readClause_89 : decode cX4_readClause 89 = .ok (.iconst 0, 1) := by decide +kernel
theorem dX4_readClause_90 : decode cX4_readClause 90 = .ok (.iload_n 3, 1) := by decide +kernel
theorem dX4_readClause_91 : decode cX4_readClause 91 = .ok (.invokevirtual 39, 3) := by decide +kernel
theorem dX4_readClause_94 : decode cX4_readClause 94 = .ok (.ifCond .eq 12, 3) := by decide +kernel
theorem dX4_readClause_97 : decode cX4_readClause 97 = .ok (.aload_n 1, 1) := by decide +kernel
theorem dX4_readClause_98 : decode cX4_readClause 98 = .ok (.bipush 63, 2) := by decide +kernel
theorem dX4_readClause_100 : decode cX4_readClause 100 = .ok (.invokevirtual 31, 3) := by decide +kernel
theorem dX4_readClause_103 : decode cX4_readClause 103 = .ok (.ifCond .ne 5, 3) := by decide +kernel
theorem dX4_readClause_106 : decode cX4_readClause 106 = .ok (.iconst 0, 1) := by decide +kernel
theorem dX4_readClause_107 : decode cX4_readClause 107 = .ok (.ireturn, 1) := by decide +kernel
theorem dX4_readClause_108 : decode cX4_readClause 108 = .ok (.aload_n 0, 1) := by decide +kernel
theorem dX4_readClause_109 : decode cX4_readClause 109 = .ok (.getfield 12, 3) := by decide +kernel
theorem dX4_readClause_112 : decode cX4_readClause 112 = .ok (.getfield 24, 3) := by decide +kernel
theorem dX4_readClause_115 : decode cX4_readClause 115 = .ok (.istore 4, 2) := by decide +kernel
theorem dX4_readClause_117 : decode cX4_readClause 117 = .ok (.aload_n 0, 1) := by decide +kernel
theorem dX4_readClause_118 : decode cX4_readClause 118 = .ok (.getfield 12, 3) := by decide +kernel
theorem dX4_readClause_121 : decode cX4_readClause 121 = .ok (.bipush 63, 2) := by decide +kernel
theorem dX4_readClause_123 : decode cX4_readClause 123 = .ok (.iconst 0, 1) := by decide +kernel
theorem dX4_readClause_124 : decode cX4_readClause 124 = .ok (.invokevirtual 46, 3) := by decide +kernel
theorem dX4_readClause_127 : decode cX4_readClause 127 = .ok (.aload_n 0, 1) := by decide +kernel
theorem dX4_readClause_128 : decode cX4_readClause 128 = .ok (.aload_n 1, 1) := by decide +kernel
theorem dX4_readClause_129 : decode cX4_readClause 129 = .ok (.iconst 2, 1) := by decide +kernel
theorem dX4_readClause_130 : decode cX4_readClause 130 = .ok (.iconst 0, 1) := by decide +kernel
theorem dX4_readClause_131 : decode cX4_readClause 131 = .ok (.iconst 0, 1) := by decide +kernel
theorem dX4_readClause_132 : decode cX4_readClause 132 = .ok (.invokevirtual 39, 3) := by decide +kernel
theorem dX4_readClause_135 : decode cX4_readClause 135 = .ok (.ifCond .ne 5, 3) := by decide +kernel
theorem dX4_readClause_138 : decode cX4_readClause 138 = .ok (.iconst 0, 1) := by decide +kernel
theorem dX4_readClause_139 : decode cX4_readClause 139 = .ok (.ireturn, 1) := by decide +kernel
theorem dX4_readClause_140 : decode cX4_readClause 140 = .ok (.aload_n 0, 1) := by decide +kernel
theorem dX4_readClause_141 : decode cX4_readClause 141 = .ok (.getfield 12, 3) := by decide +kernel
theorem dX4_readClause_144 : decode cX4_readClause 144 = .ok (.bipush 59, 2) := by decide +kernel
theorem dX4_readClause_146 : decode cX4_readClause 146 = .ok (.iconst 0, 1) := by decide +kernel
theorem dX4_readClause_147 : decode cX4_readClause 147 = .ok (.invokevirtual 46, 3) := by decide +kernel
theorem dX4_readClause_150 : decode cX4_readClause 150 = .ok (.aload_n 0, 1) := by decide +kernel
theorem dX4_readClause_151 : decode cX4_readClause 151 = .ok (.getfield 12, 3) := by decide +kernel
theorem dX4_readClause_154 : decode cX4_readClause 154 = .ok (.iload 4, 2) := by decide +kernel
theorem dX4_readClause_156 : decode cX4_readClause 156 = .ok (.invokevirtual 50, 3) := by decide +kernel
theorem dX4_readClause_159 : decode cX4_readClause 159 = .ok (.iconst 1, 1) := by decide +kernel
theorem dX4_readClause_160 : decode cX4_readClause 160 = .ok (.ireturn, 1) := by decide +kernel
def w_X4_readClause : List Cond := .code yX4_readClause cX4_readClause 5 (some .boolean) :: ([Cond.methodLink RX4 31 yX8_take, Cond.instanceMethod yX8_take, Cond.selects RX8 yX8_take yX8_take, Cond.initialized RX8, Cond.methodLink RX4 35 yX8_next, Cond.instanceMethod yX8_next, Cond.selects RX8 yX8_next yX8_next, Cond.methodLink RX4 39 yX4_readChain, Cond.instanceMethod yX4_readChain, Cond.selects RX4 yX4_readChain yX4_readChain, Cond.initialized RX4, Cond.fieldLink RX4 12 "HeadYear$LawReader" "draft" "LHeadYear$Law;", Cond.fieldLink RX4 24 "HeadYear$Law" "length" "I", Cond.methodLink RX4 46 yX3_add, Cond.instanceMethod yX3_add, Cond.selects RX3 yX3_add yX3_add, Cond.initialized RX3, Cond.methodLink RX4 50 yX3_aimHere, Cond.instanceMethod yX3_aimHere, Cond.selects RX3 yX3_aimHere yX3_aimHere, Cond.methodLink RX4 43 yX4_isComparison, Cond.static yX4_isComparison] ++ (u_ws RX4 TX4 1 ++ (u_ws RX3 TX3 3 ++ (w_X8_take ++ (w_X8_next ++ (w_X4_readChain ++ (w_X3_add ++ (w_X3_aimHere ++ (w_X4_isComparison ++ ([]))))))))))
theorem in_X4_readClause_X4 : ∀ w ∈ u_ws RX4 TX4 1, w ∈ w_X4_readClause := fun _ h => List.mem_cons_of_mem _ (List.mem_append_right _ (List.mem_append_left _ h))
theorem in_X4_readClause_X3 : ∀ w ∈ u_ws RX3 TX3 3, w ∈ w_X4_readClause := fun _ h => List.mem_cons_of_mem _ (List.mem_append_right _ (List.mem_append_right _ (List.mem_append_left _ h)))
theorem gg_X4_readClause_X8_take : GoodIn w_X4_readClause w_X8_take := goodIn_sub (fun _ h => List.mem_cons_of_mem _ (List.mem_append_right _ (List.mem_append_right _ (List.mem_append_right _ (List.mem_append_left _ h))))) (by decide +kernel)
theorem gg_X4_readClause_X8_next : GoodIn w_X4_readClause w_X8_next := goodIn_sub (fun _ h => List.mem_cons_of_mem _ (List.mem_append_right _ (List.mem_append_right _ (List.mem_append_right _ (List.mem_append_right _ (List.mem_append_left _ h)))))) (by decide +kernel)
theorem gg_X4_readClause_X4_readChain : GoodIn w_X4_readClause w_X4_readChain := goodIn_sub (fun _ h => List.mem_cons_of_mem _ (List.mem_append_right _ (List.mem_append_right _ (List.mem_append_right _ (List.mem_append_right _ (List.mem_append_right _ (List.mem_append_left _ h))))))) (by decide +kernel)
theorem gg_X4_readClause_X3_add : GoodIn w_X4_readClause w_X3_add := goodIn_sub (fun _ h => List.mem_cons_of_mem _ (List.mem_append_right _ (List.mem_append_right _ (List.mem_append_right _ (List.mem_append_right _ (List.mem_append_right _ (List.mem_append_right _ (List.mem_append_left _ h)))))))) (by decide +kernel)
theorem gg_X4_readClause_X3_aimHere : GoodIn w_X4_readClause w_X3_aimHere := goodIn_sub (fun _ h => List.mem_cons_of_mem _ (List.mem_append_right _ (List.mem_append_right _ (List.mem_append_right _ (List.mem_append_right _ (List.mem_append_right _ (List.mem_append_right _ (List.mem_append_right _ (List.mem_append_left _ h))))))))) (by decide +kernel)
theorem gg_X4_readClause_X4_isComparison : GoodIn w_X4_readClause w_X4_isComparison := goodIn_sub (fun _ h => List.mem_cons_of_mem _ (List.mem_append_right _ (List.mem_append_right _ (List.mem_append_right _ (List.mem_append_right _ (List.mem_append_right _ (List.mem_append_right _ (List.mem_append_right _ (List.mem_append_right _ (List.mem_append_left _ h)))))))))) (by decide +kernel)
theorem g_X4_readClause_X3_add_46 : GoodIn w_X4_readClause (wsV RX4 46 RX3 yX3_add w_X3_add) := goodIn_app (goodIn_of _ (by decide +kernel)) gg_X4_readClause_X3_add
theorem g_X4_readClause_X3_aimHere_50 : GoodIn w_X4_readClause (wsV RX4 50 RX3 yX3_aimHere w_X3_aimHere) := goodIn_app (goodIn_of _ (by decide +kernel)) gg_X4_readClause_X3_aimHere
theorem g_X4_readClause_X4_isComparison_43 : GoodIn w_X4_readClause (va_wsS RX4 43 yX4_isComparison w_X4_isComparison) := goodIn_app (goodIn_of _ (by decide +kernel)) gg_X4_readClause_X4_isComparison
theorem g_X4_readClause_X4_readChain_39 : GoodIn w_X4_readClause (wsV RX4 39 RX4 yX4_readChain w_X4_readChain) := goodIn_app (goodIn_of _ (by decide +kernel)) gg_X4_readClause_X4_readChain
theorem g_X4_readClause_X8_next_35 : GoodIn w_X4_readClause (wsV RX4 35 RX8 yX8_next w_X8_next) := goodIn_app (goodIn_of _ (by decide +kernel)) gg_X4_readClause_X8_next
theorem g_X4_readClause_X8_take_31 : GoodIn w_X4_readClause (wsV RX4 31 RX8 yX8_take w_X8_take) := goodIn_app (goodIn_of _ (by decide +kernel)) gg_X4_readClause_X8_take
set_option maxHeartbeats 4000000 in
set_option maxRecDepth 100000 in
theorem c_X4_readClause (l : Launch) (E : py_E) (G : wf_G) (L : List Nat) (f : py_F) (sz : Nat) (h : Nat) (t : Nat) (gb : rs_B) (nb : Int) (pb : Int) (hG : GT G) (hWF : WF E G L f) (Th : G.1 h = 5) (Tt : G.1 t = 9) (hp0 : tp_l f t = nb ∧ tp_a f t = pb) (hp1 : 0 ≤ pb ∧ nb ≤ 160) (hq0 : gfn f (G.2 t 0) = gb) : Met l yX4_readClause w_X4_readClause ({ frames := 60, cells := 0, slots := 0, locals := 3268 }) (py_Pc E [.ref h, .ref t] L f sz) (py_Qi E L f sz (fun r L1 f1 => (0 ≤ r.toInt ∧ r.toInt ≤ 1) ∧ (tp_l f1 t = nb) ∧ (pb ≤ tp_a f1 t) ∧ (r.toInt ≠ 0 → pb + 1 ≤ tp_a f1 t ∧ tp_a f1 t ≤ nb) ∧ (r.toInt = (rs_ca gb nb pb).1 ∧ tp_a f1 t = (rs_ca gb nb pb).2) ∧ WF E G L1 f1 ∧ RP E G f f1 ∧ KP G [9, 4, 20] false f f1)) 0 0 (va_A (va_pl L f) sz) := by
  refine Met.ofW (cc := cX4_readClause) (maxL := 5) (ret := (some .boolean)) (by decide) rfl ?_
  intro p e s m args below meth c s₁ B hml hv
  obtain ⟨rfl, rfl, hw⟩ := py_start hv
  have G0 : CallFix p m c cX4_readClause 5 s _ w_X4_readClause RX4 := ⟨B.exec, B.bytes, hml, findClass_of_methodNamed B.named, atoms_spec (ws := w_X4_readClause) B.pre⟩
  have hr := B.returns
  have hlk := B.notSynchronized
  have kcm1 : (-1 : Int32).toInt = -1 := rfl
  have kc0 : (0 : Int32).toInt = 0 := rfl
  have kc1 : (1 : Int32).toInt = 1 := rfl
  have kc2 : (2 : Int32).toInt = 2 := rfl
  have kc33 : (33 : Int32).toInt = 33 := rfl
  have kc40 : (40 : Int32).toInt = 40 := rfl
  have kc58 : (58 : Int32).toInt = 58 := rfl
  have kc59 : (59 : Int32).toInt = 59 := rfl
  have kc63 : (63 : Int32).toInt = 63 := rfl
  have kc121 : (121 : Int32).toInt = 121 := rfl
  have hl := lv_entry ([.ref h, .ref t]) (n := 5) (Nat.le_of_ble_eq_true rfl)
  rw [lg_entry_eq]
  generalize (lg_sl ([.ref h, .ref t]) ++ List.replicate (5 - (lg_sl ([.ref h, .ref t])).length) Slot.unset).toArray = ls at hl ⊢
  have hl : lv_has ls 5 [(0, .ref h), (1, .ref t)] := hl
  have hRP : RP E G f f := RP.refl
  have hKP : KP G [9, 4, 20] false f f := KP.refl
  have hTB := hq0
  refine lv_aload_n G0.1 G0.2.1 dX4_readClause_0 rfl (lv_at hl 1 rfl) ?_
  refine lv_bipush (v := 121) G0.1 G0.2.1 dX4_readClause_1 (by decide) ?_
  have t_1 := wt_8 hG Tt
  obtain ⟨v_2, v_3, v_4, hr_7, b_5, b_6⟩ := wg_8 hWF Tt
  have bv_4 := wf_free v_4
  have tq_8 := tp_eq hr_7
  refine py_calli hw (va_runV (As := [.int 121]) (rest := []) G0 (c_X8_take l E G L f s.heap.size t 121 gb nb pb hG hWF Tt ⟨by omega, by omega⟩ (show tp_l f t = nb ∧ tp_a f t = pb by omega) (show 0 ≤ pb ∧ nb ≤ 160 by omega) hTB) (cwV 1 G0.2.2.2.2 g_X4_readClause_X8_take_31 rfl rfl rfl (by decide +kernel) ⟨(Nat.le_of_ble_eq_true rfl), (Nat.le_of_ble_eq_true rfl)⟩) (py_preV hw (C := RX8) (T := TX8) (N := 4) rfl hr_7) rfl rfl hl.1 rfl (lv_room (Nat.le_of_ble_eq_true rfl)) dX4_readClause_3 ⟨(Nat.le_of_ble_eq_true rfl), (Nat.le_of_ble_eq_true rfl)⟩) (fun r_13 L_9 f_10 H_11 locs hp_12 hw => ?_)
  obtain ⟨b_18, en_14, en_15, en_16, en_17, hWF, hq_19, kp_20⟩ := hp_12
  have hTB := (gfn_kp (kp_f kp_20 (wt_8 hG Tt) (by decide) (by decide) (fun _ => by decide))).trans hTB
  have hRP := hRP.trans hq_19
  have hKP := hKP.trans kp_20 (by decide) (by decide)
  refine lv_if_eq (tgt := 18) G0.1 G0.2.1 dX4_readClause_6 (by decide) (fun c_21 => ?_) (fun c_21 => ?_)
  · skip
    have tc_21 := ti_eq c_21
    clear en_16
    replace en_17 := en_17 (by omega)
    refine lv_iconst (v := 0) G0.1 G0.2.1 dX4_readClause_18 (by decide) ?_
    obtain ⟨v_22, v_23, v_24, hr_27, b_25, b_26⟩ := wg_8 hWF Tt
    have bv_24 := wf_free v_24
    have tq_28 := tp_eq hr_27
    exact py_iret G0 hr rfl hlk hw ⟨⟨by omega, by omega⟩, (by first | omega | (intro q; omega)), (by first | omega | (intro q; omega)), (by first | omega | (intro q; omega)), (by first | exact rs_eq (rs_ca_y (by omega)) (by omega) (by omega) | exact rs_eq (rs_ca_d (by omega) (by omega)) (by omega) (by omega)), hWF, hRP, hKP⟩ dX4_readClause_19
  · skip
    have tc_21 := ti_ne c_21
    replace en_16 := en_16 (by omega)
    clear en_17
    refine lv_aload_n G0.1 G0.2.1 dX4_readClause_9 rfl (lv_at hl 1 rfl) ?_
    refine lv_bipush (v := 58) G0.1 G0.2.1 dX4_readClause_10 (by decide) ?_
    obtain ⟨v_29, v_30, v_31, hr_34, b_32, b_33⟩ := wg_8 hWF Tt
    have bv_31 := wf_free v_31
    have tq_35 := tp_eq hr_34
    refine py_calli hw (va_runV (As := [.int 58]) (rest := []) G0 (c_X8_take l E G L_9 f_10 H_11.size t 58 gb nb (rs_sk gb nb pb + 1) hG hWF Tt ⟨by omega, by omega⟩ (show tp_l f_10 t = nb ∧ tp_a f_10 t = (rs_sk gb nb pb + 1) by omega) (show 0 ≤ (rs_sk gb nb pb + 1) ∧ nb ≤ 160 by omega) hTB) (cwV 1 G0.2.2.2.2 g_X4_readClause_X8_take_31 rfl rfl rfl (by decide +kernel) ⟨(Nat.le_of_ble_eq_true rfl), (Nat.le_of_ble_eq_true rfl)⟩) (py_preV hw (C := RX8) (T := TX8) (N := 4) rfl hr_34) rfl rfl hl.1 rfl (lv_room (Nat.le_of_ble_eq_true rfl)) dX4_readClause_12 ⟨(Nat.le_of_ble_eq_true rfl), (Nat.le_of_ble_eq_true rfl)⟩) (fun r_40 L_36 f_37 H_38 locs hp_39 hw => ?_)
    obtain ⟨b_45, en_41, en_42, en_43, en_44, hWF, hq_46, kp_47⟩ := hp_39
    have hTB := (gfn_kp (kp_f kp_47 (wt_8 hG Tt) (by decide) (by decide) (fun _ => by decide))).trans hTB
    have hRP := hRP.trans hq_46
    have hKP := hKP.trans kp_47 (by decide) (by decide)
    refine lv_if_ne (tgt := 20) G0.1 G0.2.1 dX4_readClause_15 (by decide) (fun c_48 => ?_) (fun c_48 => ?_)
    · skip
      have tc_48 := ti_ne c_48
      replace en_43 := en_43 (by omega)
      clear en_44
      refine lv_aload_n G0.1 G0.2.1 dX4_readClause_20 rfl (lv_at hl 1 rfl) ?_
      obtain ⟨v_49, v_50, v_51, hr_54, b_52, b_53⟩ := wg_8 hWF Tt
      have bv_51 := wf_free v_51
      have tq_55 := tp_eq hr_54
      refine py_calli hw (va_runV (As := []) (rest := []) G0 (c_X8_next l E G L_36 f_37 H_38.size t gb nb (rs_sk gb nb (rs_sk gb nb pb + 1) + 1) hG hWF Tt (show tp_l f_37 t = nb ∧ tp_a f_37 t = (rs_sk gb nb (rs_sk gb nb pb + 1) + 1) by omega) (show 0 ≤ (rs_sk gb nb (rs_sk gb nb pb + 1) + 1) ∧ nb ≤ 160 by omega) hTB) (cwV 0 G0.2.2.2.2 g_X4_readClause_X8_next_35 rfl rfl rfl (by decide +kernel) ⟨(Nat.le_of_ble_eq_true rfl), (Nat.le_of_ble_eq_true rfl)⟩) (py_preV hw (C := RX8) (T := TX8) (N := 4) rfl hr_54) rfl rfl hl.1 rfl (lv_room (Nat.le_of_ble_eq_true rfl)) dX4_readClause_21 ⟨(Nat.le_of_ble_eq_true rfl), (Nat.le_of_ble_eq_true rfl)⟩) (fun r_60 L_56 f_57 H_58 locs hp_59 hw => ?_)
      obtain ⟨en_61, en_62, en_63, en_64, en_65, hWF, hq_66, kp_67⟩ := hp_59
      have hTB := (gfn_kp (kp_f kp_67 (wt_8 hG Tt) (by decide) (by decide) (fun _ => by decide))).trans hTB
      have hRP := hRP.trans hq_66
      have hKP := hKP.trans kp_67 (by decide) (by decide)
      have br_60 := wf_free r_60
      refine lv_istore_n (lv' := [(2, .int r_60), (0, .ref h), (1, .ref t)]) G0.1 G0.2.1 dX4_readClause_24 rfl hl (by decide) rfl (fun ls hl => ?_)
      refine lv_iload_n G0.1 G0.2.1 dX4_readClause_25 rfl (lv_at hl 0 rfl) ?_
      refine lv_bipush (v := 33) G0.1 G0.2.1 dX4_readClause_26 (by decide) ?_
      refine lv_icmp_eq (tgt := 41) G0.1 G0.2.1 dX4_readClause_28 (by decide) (fun c_68 => ?_) (fun c_68 => ?_)
      · skip
        have tc_68 := ti_eq c_68
        replace en_61 := en_61 (by omega)
        refine lv_iconst (v := 0) G0.1 G0.2.1 dX4_readClause_41 (by decide) ?_
        refine lv_istore_n (lv' := [(3, .int 0), (2, .int r_60), (0, .ref h), (1, .ref t)]) G0.1 G0.2.1 dX4_readClause_42 rfl hl (by decide) rfl (fun ls hl => ?_)
        refine lv_iload_n G0.1 G0.2.1 dX4_readClause_43 rfl (lv_at hl 0 rfl) ?_
        refine lv_if_eq (tgt := 60) G0.1 G0.2.1 dX4_readClause_44 (by decide) (fun c_69 => ?_) (fun c_69 => ?_)
        · skip
          have tc_69 := ti_eq c_69
          refine lv_iload_n G0.1 G0.2.1 dX4_readClause_60 rfl (lv_at hl 0 rfl) ?_
          refine lv_if_eq (tgt := 86) G0.1 G0.2.1 dX4_readClause_61 (by decide) (fun c_70 => ?_) (fun c_70 => ?_)
          · skip
            have tc_70 := ti_eq c_70
            refine lv_aload_n G0.1 G0.2.1 dX4_readClause_86 rfl (lv_at hl 2 rfl) ?_
            refine lv_aload_n G0.1 G0.2.1 dX4_readClause_87 rfl (lv_at hl 3 rfl) ?_
            refine lv_iconst (v := 0) G0.1 G0.2.1 dX4_readClause_88 (by decide) ?_
            refine lv_iconst (v := 0) G0.1 G0.2.1 dX4_readClause_89 (by decide) ?_
            refine lv_iload_n G0.1 G0.2.1 dX4_readClause_90 rfl (lv_at hl 0 rfl) ?_
            obtain ⟨r_71, hr_73, ty_72⟩ := wg_4 hWF Th
            refine py_calli hw (va_runV (As := [.ref t, .int 0, .int 0, .int 0]) (rest := []) G0 (rd_chain0 l E G hG L_56 f_57 H_58.size h t 0 0 gb nb (rs_sk gb nb (rs_sk gb nb (rs_sk gb nb pb + 1) + 1)) 6 0 hWF Th Tt ⟨by omega, by omega⟩ (show 0 ≤ (0 : Int32).toInt ∧ (0 : Int32).toInt ≤ 6 by omega) (show (0 : Int32).toInt = 0 by omega) (show (0 : Int32).toInt = 6 - ((6 : Nat) : Int) by omega) (show tp_l f_57 t = nb ∧ tp_a f_57 t = (rs_sk gb nb (rs_sk gb nb (rs_sk gb nb pb + 1) + 1)) by omega) (show 0 ≤ (rs_sk gb nb (rs_sk gb nb (rs_sk gb nb pb + 1) + 1)) ∧ nb ≤ 160 by omega) hTB) (cwV 4 G0.2.2.2.2 g_X4_readClause_X4_readChain_39 rfl rfl rfl (by decide +kernel) ⟨(Nat.le_of_ble_eq_true rfl), (Nat.le_of_ble_eq_true rfl)⟩) (py_preV hw (C := RX4) (T := TX4) (N := 1) rfl hr_73) rfl rfl hl.1 rfl (lv_room (Nat.le_of_ble_eq_true rfl)) dX4_readClause_91 ⟨(Nat.le_of_ble_eq_true rfl), (Nat.le_of_ble_eq_true rfl)⟩) (fun r_78 L_74 f_75 H_76 locs hp_77 hw => ?_)
            obtain ⟨b_83, en_79, en_80, en_81, en_82, hWF, hq_84, kp_85⟩ := hp_77
            have hTB := (gfn_kp (kp_f kp_85 (wt_8 hG Tt) (by decide) (by decide) (fun _ => by decide))).trans hTB
            have hRP := hRP.trans hq_84
            have hKP := hKP.trans kp_85 (by decide) (by decide)
            have hr_73 := kp_at kp_85 hWF Th (by decide) (by decide) (by decide) hr_73
            refine lv_if_eq (tgt := 106) G0.1 G0.2.1 dX4_readClause_94 (by decide) (fun c_86 => ?_) (fun c_86 => ?_)
            · skip
              have tc_86 := ti_eq c_86
              clear en_81
              refine lv_iconst (v := 0) G0.1 G0.2.1 dX4_readClause_106 (by decide) ?_
              obtain ⟨v_87, v_88, v_89, hr_92, b_90, b_91⟩ := wg_8 hWF Tt
              have bv_89 := wf_free v_89
              have tq_93 := tp_eq hr_92
              exact py_iret G0 hr rfl hlk hw ⟨⟨by omega, by omega⟩, (by first | omega | (intro q; omega)), (by first | omega | (intro q; omega)), (by first | omega | (intro q; omega)), (by first | exact rs_eqw ((rs_ca_b (by omega) (by omega)).trans ((rs_bd_cc (by omega)).trans (rs_th_0 (by omega)))) (by omega) (by omega)), hWF, hRP, hKP⟩ dX4_readClause_107
            · skip
              have tc_86 := ti_ne c_86
              replace en_81 := en_81 (by omega)
              refine lv_aload_n G0.1 G0.2.1 dX4_readClause_97 rfl (lv_at hl 3 rfl) ?_
              refine lv_bipush (v := 63) G0.1 G0.2.1 dX4_readClause_98 (by decide) ?_
              obtain ⟨v_94, v_95, v_96, hr_99, b_97, b_98⟩ := wg_8 hWF Tt
              have bv_96 := wf_free v_96
              have tq_100 := tp_eq hr_99
              refine py_calli hw (va_runV (As := [.int 63]) (rest := []) G0 (c_X8_take l E G L_74 f_75 H_76.size t 63 gb nb (rs_cdb gb nb 6 0 (rs_sk gb nb (rs_sk gb nb (rs_sk gb nb pb + 1) + 1))).2 hG hWF Tt ⟨by omega, by omega⟩ (show tp_l f_75 t = nb ∧ tp_a f_75 t = (rs_cdb gb nb 6 0 (rs_sk gb nb (rs_sk gb nb (rs_sk gb nb pb + 1) + 1))).2 by omega) (show 0 ≤ (rs_cdb gb nb 6 0 (rs_sk gb nb (rs_sk gb nb (rs_sk gb nb pb + 1) + 1))).2 ∧ nb ≤ 160 by omega) hTB) (cwV 1 G0.2.2.2.2 g_X4_readClause_X8_take_31 rfl rfl rfl (by decide +kernel) ⟨(Nat.le_of_ble_eq_true rfl), (Nat.le_of_ble_eq_true rfl)⟩) (py_preV hw (C := RX8) (T := TX8) (N := 4) rfl hr_99) rfl rfl hl.1 rfl (lv_room (Nat.le_of_ble_eq_true rfl)) dX4_readClause_100 ⟨(Nat.le_of_ble_eq_true rfl), (Nat.le_of_ble_eq_true rfl)⟩) (fun r_105 L_101 f_102 H_103 locs hp_104 hw => ?_)
              obtain ⟨b_110, en_106, en_107, en_108, en_109, hWF, hq_111, kp_112⟩ := hp_104
              have hTB := (gfn_kp (kp_f kp_112 (wt_8 hG Tt) (by decide) (by decide) (fun _ => by decide))).trans hTB
              have hRP := hRP.trans hq_111
              have hKP := hKP.trans kp_112 (by decide) (by decide)
              have hr_73 := kp_at kp_112 hWF Th (by decide) (by decide) (by decide) hr_73
              refine lv_if_ne (tgt := 108) G0.1 G0.2.1 dX4_readClause_103 (by decide) (fun c_113 => ?_) (fun c_113 => ?_)
              · skip
                have tc_113 := ti_ne c_113
                replace en_108 := en_108 (by omega)
                clear en_109
                refine lv_aload_n G0.1 G0.2.1 dX4_readClause_108 rfl (lv_at hl 2 rfl) ?_
                refine py_get (C := RX4) (T := TX4) (N := 1) (k := 0) (v := .ref r_71) G0 hw in_X4_readClause_X4 rfl hr_73 (by decide) (by decide +kernel) rfl dX4_readClause_109 ?_
                obtain ⟨t_114, t_115⟩ := wt_3 hG ty_72
                obtain ⟨v_116, hr_118, b_117⟩ := wg_3 hWF ty_72
                refine py_get (C := RX3) (T := TX3) (N := 3) (k := 2) (v := .int v_116) G0 hw in_X4_readClause_X3 rfl hr_118 (by decide) (by decide +kernel) rfl dX4_readClause_112 ?_
                refine lv_istore (lv' := [(4, .int v_116), (3, .int 0), (2, .int r_60), (0, .ref h), (1, .ref t)]) G0.1 G0.2.1 dX4_readClause_115 hl (by decide) rfl (fun ls hl => ?_)
                refine lv_aload_n G0.1 G0.2.1 dX4_readClause_117 rfl (lv_at hl 3 rfl) ?_
                refine py_get (C := RX4) (T := TX4) (N := 1) (k := 0) (v := .ref r_71) G0 hw in_X4_readClause_X4 rfl hr_73 (by decide) (by decide +kernel) rfl dX4_readClause_118 ?_
                refine lv_bipush (v := 63) G0.1 G0.2.1 dX4_readClause_121 (by decide) ?_
                refine lv_iconst (v := 0) G0.1 G0.2.1 dX4_readClause_123 (by decide) ?_
                obtain ⟨v_119, v_120, v_121, hr_124, b_122, b_123⟩ := wg_8 hWF Tt
                have bv_121 := wf_free v_121
                have tq_125 := tp_eq hr_124
                refine py_callv hw (va_runV (As := [.int 63, .int 0]) (rest := []) G0 (c_X3_add l E G L_101 f_102 H_103.size r_71 63 0 hG hWF ty_72) (cwV 2 G0.2.2.2.2 g_X4_readClause_X3_add_46 rfl rfl rfl (by decide +kernel) ⟨(Nat.le_of_ble_eq_true rfl), (Nat.le_of_ble_eq_true rfl)⟩) (py_preV hw (C := RX3) (T := TX3) (N := 3) rfl hr_118) rfl rfl hl.1 rfl (lv_room (Nat.le_of_ble_eq_true rfl)) dX4_readClause_124 ⟨(Nat.le_of_ble_eq_true rfl), (Nat.le_of_ble_eq_true rfl)⟩) (fun L_126 f_127 H_128 locs hp_129 hw => ?_)
                obtain ⟨hWF, hq_131, kp_132⟩ := hp_129
                have hTB := (gfn_kp (kp_f kp_132 (wt_8 hG Tt) (by decide) (by decide) (fun _ => by decide))).trans hTB
                have hRP := hRP.trans hq_131
                have hKP := hKP.trans kp_132 (by decide) (by decide)
                have hr_73 := kp_at kp_132 hWF Th (by decide) (by decide) (by decide) hr_73
                have hr_124 := kp_at kp_132 hWF Tt (by decide) (by decide) (by decide) hr_124
                have tq_133 := tp_eq hr_124
                refine lv_aload_n G0.1 G0.2.1 dX4_readClause_127 rfl (lv_at hl 3 rfl) ?_
                refine lv_aload_n G0.1 G0.2.1 dX4_readClause_128 rfl (lv_at hl 4 rfl) ?_
                refine lv_iconst (v := 2) G0.1 G0.2.1 dX4_readClause_129 (by decide) ?_
                refine lv_iconst (v := 0) G0.1 G0.2.1 dX4_readClause_130 (by decide) ?_
                refine lv_iconst (v := 0) G0.1 G0.2.1 dX4_readClause_131 (by decide) ?_
                refine py_calli hw (va_runV (As := [.ref t, .int 2, .int 0, .int 0]) (rest := []) G0 (rd_chain2 l E G hG L_126 f_127 H_128.size h t 0 0 gb nb (rs_sk gb nb (rs_cdb gb nb 6 0 (rs_sk gb nb (rs_sk gb nb (rs_sk gb nb pb + 1) + 1))).2 + 1) 6 hWF Th Tt ⟨by omega, by omega⟩ (show 0 ≤ (0 : Int32).toInt ∧ (0 : Int32).toInt ≤ 6 by omega) (show (0 : Int32).toInt = 6 - ((6 : Nat) : Int) by omega) (show tp_l f_127 t = nb ∧ tp_a f_127 t = (rs_sk gb nb (rs_cdb gb nb 6 0 (rs_sk gb nb (rs_sk gb nb (rs_sk gb nb pb + 1) + 1))).2 + 1) by omega) (show 0 ≤ (rs_sk gb nb (rs_cdb gb nb 6 0 (rs_sk gb nb (rs_sk gb nb (rs_sk gb nb pb + 1) + 1))).2 + 1) ∧ nb ≤ 160 by omega) hTB) (cwV 4 G0.2.2.2.2 g_X4_readClause_X4_readChain_39 rfl rfl rfl (by decide +kernel) ⟨(Nat.le_of_ble_eq_true rfl), (Nat.le_of_ble_eq_true rfl)⟩) (py_preV hw (C := RX4) (T := TX4) (N := 1) rfl hr_73) rfl rfl hl.1 rfl (lv_room (Nat.le_of_ble_eq_true rfl)) dX4_readClause_132 ⟨(Nat.le_of_ble_eq_true rfl), (Nat.le_of_ble_eq_true rfl)⟩) (fun r_138 L_134 f_135 H_136 locs hp_137 hw => ?_)
                obtain ⟨b_143, en_139, en_140, en_141, en_142, hWF, hq_144, kp_145⟩ := hp_137
                have hTB := (gfn_kp (kp_f kp_145 (wt_8 hG Tt) (by decide) (by decide) (fun _ => by decide))).trans hTB
                have hRP := hRP.trans hq_144
                have hKP := hKP.trans kp_145 (by decide) (by decide)
                have hr_73 := kp_at kp_145 hWF Th (by decide) (by decide) (by decide) hr_73
                refine lv_if_ne (tgt := 140) G0.1 G0.2.1 dX4_readClause_135 (by decide) (fun c_146 => ?_) (fun c_146 => ?_)
                · skip
                  have tc_146 := ti_ne c_146
                  replace en_141 := en_141 (by omega)
                  refine lv_aload_n G0.1 G0.2.1 dX4_readClause_140 rfl (lv_at hl 3 rfl) ?_
                  refine py_get (C := RX4) (T := TX4) (N := 1) (k := 0) (v := .ref r_71) G0 hw in_X4_readClause_X4 rfl hr_73 (by decide) (by decide +kernel) rfl dX4_readClause_141 ?_
                  refine lv_bipush (v := 59) G0.1 G0.2.1 dX4_readClause_144 (by decide) ?_
                  refine lv_iconst (v := 0) G0.1 G0.2.1 dX4_readClause_146 (by decide) ?_
                  obtain ⟨v_147, hr_149, b_148⟩ := wg_3 hWF ty_72
                  obtain ⟨v_150, v_151, v_152, hr_155, b_153, b_154⟩ := wg_8 hWF Tt
                  have bv_152 := wf_free v_152
                  have tq_156 := tp_eq hr_155
                  refine py_callv hw (va_runV (As := [.int 59, .int 0]) (rest := []) G0 (c_X3_add l E G L_134 f_135 H_136.size r_71 59 0 hG hWF ty_72) (cwV 2 G0.2.2.2.2 g_X4_readClause_X3_add_46 rfl rfl rfl (by decide +kernel) ⟨(Nat.le_of_ble_eq_true rfl), (Nat.le_of_ble_eq_true rfl)⟩) (py_preV hw (C := RX3) (T := TX3) (N := 3) rfl hr_149) rfl rfl hl.1 rfl (lv_room (Nat.le_of_ble_eq_true rfl)) dX4_readClause_147 ⟨(Nat.le_of_ble_eq_true rfl), (Nat.le_of_ble_eq_true rfl)⟩) (fun L_157 f_158 H_159 locs hp_160 hw => ?_)
                  obtain ⟨hWF, hq_162, kp_163⟩ := hp_160
                  have hTB := (gfn_kp (kp_f kp_163 (wt_8 hG Tt) (by decide) (by decide) (fun _ => by decide))).trans hTB
                  have hRP := hRP.trans hq_162
                  have hKP := hKP.trans kp_163 (by decide) (by decide)
                  have hr_73 := kp_at kp_163 hWF Th (by decide) (by decide) (by decide) hr_73
                  have hr_155 := kp_at kp_163 hWF Tt (by decide) (by decide) (by decide) hr_155
                  have tq_164 := tp_eq hr_155
                  refine lv_aload_n G0.1 G0.2.1 dX4_readClause_150 rfl (lv_at hl 3 rfl) ?_
                  refine py_get (C := RX4) (T := TX4) (N := 1) (k := 0) (v := .ref r_71) G0 hw in_X4_readClause_X4 rfl hr_73 (by decide) (by decide +kernel) rfl dX4_readClause_151 ?_
                  refine lv_iload G0.1 G0.2.1 dX4_readClause_154 (lv_at hl 0 rfl) ?_
                  obtain ⟨v_165, hr_167, b_166⟩ := wg_3 hWF ty_72
                  refine py_callv hw (va_runV (As := [.int v_116]) (rest := []) G0 (c_X3_aimHere l E G L_157 f_158 H_159.size r_71 v_116 hG hWF ty_72) (cwV 1 G0.2.2.2.2 g_X4_readClause_X3_aimHere_50 rfl rfl rfl (by decide +kernel) ⟨(Nat.le_of_ble_eq_true rfl), (Nat.le_of_ble_eq_true rfl)⟩) (py_preV hw (C := RX3) (T := TX3) (N := 3) rfl hr_167) rfl rfl hl.1 rfl (lv_room (Nat.le_of_ble_eq_true rfl)) dX4_readClause_156 ⟨(Nat.le_of_ble_eq_true rfl), (Nat.le_of_ble_eq_true rfl)⟩) (fun L_168 f_169 H_170 locs hp_171 hw => ?_)
                  obtain ⟨hWF, hq_173, kp_174⟩ := hp_171
                  have hTB := (gfn_kp (kp_f kp_174 (wt_8 hG Tt) (by decide) (by decide) (fun _ => by decide))).trans hTB
                  have hRP := hRP.trans hq_173
                  have hKP := hKP.trans kp_174 (by decide) (by decide)
                  have hr_73 := kp_at kp_174 hWF Th (by decide) (by decide) (by decide) hr_73
                  have hr_155 := kp_at kp_174 hWF Tt (by decide) (by decide) (by decide) hr_155
                  have tq_175 := tp_eq hr_155
                  have hr_167 := kp_at kp_174 hWF ty_72 (by decide) (by decide) (by decide) hr_167
                  refine lv_iconst (v := 1) G0.1 G0.2.1 dX4_readClause_159 (by decide) ?_
                  exact py_iret G0 hr rfl hlk hw ⟨⟨by omega, by omega⟩, (by first | omega | (intro q; omega)), (by first | omega | (intro q; omega)), (by first | omega | (intro q; omega)), (by first | exact rs_eqw ((rs_ca_b (by omega) (by omega)).trans ((rs_bd_cc (by omega)).trans ((rs_th_1 (by omega)).trans (rs_tl_1 (by omega))))) (by omega) (by omega)), hWF, hRP, hKP⟩ dX4_readClause_160
                · skip
                  have tc_146 := ti_eq c_146
                  clear en_141
                  refine lv_iconst (v := 0) G0.1 G0.2.1 dX4_readClause_138 (by decide) ?_
                  obtain ⟨v_176, v_177, v_178, hr_181, b_179, b_180⟩ := wg_8 hWF Tt
                  have bv_178 := wf_free v_178
                  have tq_182 := tp_eq hr_181
                  exact py_iret G0 hr rfl hlk hw ⟨⟨by omega, by omega⟩, (by first | omega | (intro q; omega)), (by first | omega | (intro q; omega)), (by first | omega | (intro q; omega)), (by first | exact rs_eqw ((rs_ca_b (by omega) (by omega)).trans ((rs_bd_cc (by omega)).trans ((rs_th_1 (by omega)).trans (rs_tl_1 (by omega))))) (by omega) (by omega)), hWF, hRP, hKP⟩ dX4_readClause_139
              · skip
                have tc_113 := ti_eq c_113
                clear en_108
                replace en_109 := en_109 (by omega)
                refine lv_iconst (v := 0) G0.1 G0.2.1 dX4_readClause_106 (by decide) ?_
                obtain ⟨v_183, v_184, v_185, hr_188, b_186, b_187⟩ := wg_8 hWF Tt
                have bv_185 := wf_free v_185
                have tq_189 := tp_eq hr_188
                exact py_iret G0 hr rfl hlk hw ⟨⟨by omega, by omega⟩, (by first | omega | (intro q; omega)), (by first | omega | (intro q; omega)), (by first | omega | (intro q; omega)), (by first | exact rs_eq ((rs_ca_b (by omega) (by omega)).trans ((rs_bd_cc (by omega)).trans ((rs_th_1 (by omega)).trans (rs_tl_0 (by omega))))) (by omega) (by omega)), hWF, hRP, hKP⟩ dX4_readClause_107
          · skip
            exact absurd c_70 (by decide)
        · skip
          exact absurd c_69 (by decide)
      · skip
        have tc_68 := ti_ne c_68
        refine lv_iload_n G0.1 G0.2.1 dX4_readClause_31 rfl (lv_at hl 0 rfl) ?_
        refine lv_bipush (v := 40) G0.1 G0.2.1 dX4_readClause_32 (by decide) ?_
        refine lv_icmp_eq (tgt := 41) G0.1 G0.2.1 dX4_readClause_34 (by decide) (fun c_190 => ?_) (fun c_190 => ?_)
        · skip
          have tc_190 := ti_eq c_190
          replace en_61 := en_61 (by omega)
          refine lv_iconst (v := 0) G0.1 G0.2.1 dX4_readClause_41 (by decide) ?_
          refine lv_istore_n (lv' := [(3, .int 0), (2, .int r_60), (0, .ref h), (1, .ref t)]) G0.1 G0.2.1 dX4_readClause_42 rfl hl (by decide) rfl (fun ls hl => ?_)
          refine lv_iload_n G0.1 G0.2.1 dX4_readClause_43 rfl (lv_at hl 0 rfl) ?_
          refine lv_if_eq (tgt := 60) G0.1 G0.2.1 dX4_readClause_44 (by decide) (fun c_191 => ?_) (fun c_191 => ?_)
          · skip
            have tc_191 := ti_eq c_191
            refine lv_iload_n G0.1 G0.2.1 dX4_readClause_60 rfl (lv_at hl 0 rfl) ?_
            refine lv_if_eq (tgt := 86) G0.1 G0.2.1 dX4_readClause_61 (by decide) (fun c_192 => ?_) (fun c_192 => ?_)
            · skip
              have tc_192 := ti_eq c_192
              refine lv_aload_n G0.1 G0.2.1 dX4_readClause_86 rfl (lv_at hl 2 rfl) ?_
              refine lv_aload_n G0.1 G0.2.1 dX4_readClause_87 rfl (lv_at hl 3 rfl) ?_
              refine lv_iconst (v := 0) G0.1 G0.2.1 dX4_readClause_88 (by decide) ?_
              refine lv_iconst (v := 0) G0.1 G0.2.1 dX4_readClause_89 (by decide) ?_
              refine lv_iload_n G0.1 G0.2.1 dX4_readClause_90 rfl (lv_at hl 0 rfl) ?_
              obtain ⟨r_193, hr_195, ty_194⟩ := wg_4 hWF Th
              refine py_calli hw (va_runV (As := [.ref t, .int 0, .int 0, .int 0]) (rest := []) G0 (rd_chain0 l E G hG L_56 f_57 H_58.size h t 0 0 gb nb (rs_sk gb nb (rs_sk gb nb (rs_sk gb nb pb + 1) + 1)) 6 0 hWF Th Tt ⟨by omega, by omega⟩ (show 0 ≤ (0 : Int32).toInt ∧ (0 : Int32).toInt ≤ 6 by omega) (show (0 : Int32).toInt = 0 by omega) (show (0 : Int32).toInt = 6 - ((6 : Nat) : Int) by omega) (show tp_l f_57 t = nb ∧ tp_a f_57 t = (rs_sk gb nb (rs_sk gb nb (rs_sk gb nb pb + 1) + 1)) by omega) (show 0 ≤ (rs_sk gb nb (rs_sk gb nb (rs_sk gb nb pb + 1) + 1)) ∧ nb ≤ 160 by omega) hTB) (cwV 4 G0.2.2.2.2 g_X4_readClause_X4_readChain_39 rfl rfl rfl (by decide +kernel) ⟨(Nat.le_of_ble_eq_true rfl), (Nat.le_of_ble_eq_true rfl)⟩) (py_preV hw (C := RX4) (T := TX4) (N := 1) rfl hr_195) rfl rfl hl.1 rfl (lv_room (Nat.le_of_ble_eq_true rfl)) dX4_readClause_91 ⟨(Nat.le_of_ble_eq_true rfl), (Nat.le_of_ble_eq_true rfl)⟩) (fun r_200 L_196 f_197 H_198 locs hp_199 hw => ?_)
              obtain ⟨b_205, en_201, en_202, en_203, en_204, hWF, hq_206, kp_207⟩ := hp_199
              have hTB := (gfn_kp (kp_f kp_207 (wt_8 hG Tt) (by decide) (by decide) (fun _ => by decide))).trans hTB
              have hRP := hRP.trans hq_206
              have hKP := hKP.trans kp_207 (by decide) (by decide)
              have hr_195 := kp_at kp_207 hWF Th (by decide) (by decide) (by decide) hr_195
              refine lv_if_eq (tgt := 106) G0.1 G0.2.1 dX4_readClause_94 (by decide) (fun c_208 => ?_) (fun c_208 => ?_)
              · skip
                have tc_208 := ti_eq c_208
                clear en_203
                refine lv_iconst (v := 0) G0.1 G0.2.1 dX4_readClause_106 (by decide) ?_
                obtain ⟨v_209, v_210, v_211, hr_214, b_212, b_213⟩ := wg_8 hWF Tt
                have bv_211 := wf_free v_211
                have tq_215 := tp_eq hr_214
                exact py_iret G0 hr rfl hlk hw ⟨⟨by omega, by omega⟩, (by first | omega | (intro q; omega)), (by first | omega | (intro q; omega)), (by first | omega | (intro q; omega)), (by first | exact rs_eqw ((rs_ca_b (by omega) (by omega)).trans ((rs_bd_cc (by omega)).trans (rs_th_0 (by omega)))) (by omega) (by omega)), hWF, hRP, hKP⟩ dX4_readClause_107
              · skip
                have tc_208 := ti_ne c_208
                replace en_203 := en_203 (by omega)
                refine lv_aload_n G0.1 G0.2.1 dX4_readClause_97 rfl (lv_at hl 3 rfl) ?_
                refine lv_bipush (v := 63) G0.1 G0.2.1 dX4_readClause_98 (by decide) ?_
                obtain ⟨v_216, v_217, v_218, hr_221, b_219, b_220⟩ := wg_8 hWF Tt
                have bv_218 := wf_free v_218
                have tq_222 := tp_eq hr_221
                refine py_calli hw (va_runV (As := [.int 63]) (rest := []) G0 (c_X8_take l E G L_196 f_197 H_198.size t 63 gb nb (rs_cdb gb nb 6 0 (rs_sk gb nb (rs_sk gb nb (rs_sk gb nb pb + 1) + 1))).2 hG hWF Tt ⟨by omega, by omega⟩ (show tp_l f_197 t = nb ∧ tp_a f_197 t = (rs_cdb gb nb 6 0 (rs_sk gb nb (rs_sk gb nb (rs_sk gb nb pb + 1) + 1))).2 by omega) (show 0 ≤ (rs_cdb gb nb 6 0 (rs_sk gb nb (rs_sk gb nb (rs_sk gb nb pb + 1) + 1))).2 ∧ nb ≤ 160 by omega) hTB) (cwV 1 G0.2.2.2.2 g_X4_readClause_X8_take_31 rfl rfl rfl (by decide +kernel) ⟨(Nat.le_of_ble_eq_true rfl), (Nat.le_of_ble_eq_true rfl)⟩) (py_preV hw (C := RX8) (T := TX8) (N := 4) rfl hr_221) rfl rfl hl.1 rfl (lv_room (Nat.le_of_ble_eq_true rfl)) dX4_readClause_100 ⟨(Nat.le_of_ble_eq_true rfl), (Nat.le_of_ble_eq_true rfl)⟩) (fun r_227 L_223 f_224 H_225 locs hp_226 hw => ?_)
                obtain ⟨b_232, en_228, en_229, en_230, en_231, hWF, hq_233, kp_234⟩ := hp_226
                have hTB := (gfn_kp (kp_f kp_234 (wt_8 hG Tt) (by decide) (by decide) (fun _ => by decide))).trans hTB
                have hRP := hRP.trans hq_233
                have hKP := hKP.trans kp_234 (by decide) (by decide)
                have hr_195 := kp_at kp_234 hWF Th (by decide) (by decide) (by decide) hr_195
                refine lv_if_ne (tgt := 108) G0.1 G0.2.1 dX4_readClause_103 (by decide) (fun c_235 => ?_) (fun c_235 => ?_)
                · skip
                  have tc_235 := ti_ne c_235
                  replace en_230 := en_230 (by omega)
                  clear en_231
                  refine lv_aload_n G0.1 G0.2.1 dX4_readClause_108 rfl (lv_at hl 2 rfl) ?_
                  refine py_get (C := RX4) (T := TX4) (N := 1) (k := 0) (v := .ref r_193) G0 hw in_X4_readClause_X4 rfl hr_195 (by decide) (by decide +kernel) rfl dX4_readClause_109 ?_
                  obtain ⟨t_236, t_237⟩ := wt_3 hG ty_194
                  obtain ⟨v_238, hr_240, b_239⟩ := wg_3 hWF ty_194
                  refine py_get (C := RX3) (T := TX3) (N := 3) (k := 2) (v := .int v_238) G0 hw in_X4_readClause_X3 rfl hr_240 (by decide) (by decide +kernel) rfl dX4_readClause_112 ?_
                  refine lv_istore (lv' := [(4, .int v_238), (3, .int 0), (2, .int r_60), (0, .ref h), (1, .ref t)]) G0.1 G0.2.1 dX4_readClause_115 hl (by decide) rfl (fun ls hl => ?_)
                  refine lv_aload_n G0.1 G0.2.1 dX4_readClause_117 rfl (lv_at hl 3 rfl) ?_
                  refine py_get (C := RX4) (T := TX4) (N := 1) (k := 0) (v := .ref r_193) G0 hw in_X4_readClause_X4 rfl hr_195 (by decide) (by decide +kernel) rfl dX4_readClause_118 ?_
                  refine lv_bipush (v := 63) G0.1 G0.2.1 dX4_readClause_121 (by decide) ?_
                  refine lv_iconst (v := 0) G0.1 G0.2.1 dX4_readClause_123 (by decide) ?_
                  obtain ⟨v_241, v_242, v_243, hr_246, b_244, b_245⟩ := wg_8 hWF Tt
                  have bv_243 := wf_free v_243
                  have tq_247 := tp_eq hr_246
                  refine py_callv hw (va_runV (As := [.int 63, .int 0]) (rest := []) G0 (c_X3_add l E G L_223 f_224 H_225.size r_193 63 0 hG hWF ty_194) (cwV 2 G0.2.2.2.2 g_X4_readClause_X3_add_46 rfl rfl rfl (by decide +kernel) ⟨(Nat.le_of_ble_eq_true rfl), (Nat.le_of_ble_eq_true rfl)⟩) (py_preV hw (C := RX3) (T := TX3) (N := 3) rfl hr_240) rfl rfl hl.1 rfl (lv_room (Nat.le_of_ble_eq_true rfl)) dX4_readClause_124 ⟨(Nat.le_of_ble_eq_true rfl), (Nat.le_of_ble_eq_true rfl)⟩) (fun L_248 f_249 H_250 locs hp_251 hw => ?_)
                  obtain ⟨hWF, hq_253, kp_254⟩ := hp_251
                  have hTB := (gfn_kp (kp_f kp_254 (wt_8 hG Tt) (by decide) (by decide) (fun _ => by decide))).trans hTB
                  have hRP := hRP.trans hq_253
                  have hKP := hKP.trans kp_254 (by decide) (by decide)
                  have hr_195 := kp_at kp_254 hWF Th (by decide) (by decide) (by decide) hr_195
                  have hr_246 := kp_at kp_254 hWF Tt (by decide) (by decide) (by decide) hr_246
                  have tq_255 := tp_eq hr_246
                  refine lv_aload_n G0.1 G0.2.1 dX4_readClause_127 rfl (lv_at hl 3 rfl) ?_
                  refine lv_aload_n G0.1 G0.2.1 dX4_readClause_128 rfl (lv_at hl 4 rfl) ?_
                  refine lv_iconst (v := 2) G0.1 G0.2.1 dX4_readClause_129 (by decide) ?_
                  refine lv_iconst (v := 0) G0.1 G0.2.1 dX4_readClause_130 (by decide) ?_
                  refine lv_iconst (v := 0) G0.1 G0.2.1 dX4_readClause_131 (by decide) ?_
                  refine py_calli hw (va_runV (As := [.ref t, .int 2, .int 0, .int 0]) (rest := []) G0 (rd_chain2 l E G hG L_248 f_249 H_250.size h t 0 0 gb nb (rs_sk gb nb (rs_cdb gb nb 6 0 (rs_sk gb nb (rs_sk gb nb (rs_sk gb nb pb + 1) + 1))).2 + 1) 6 hWF Th Tt ⟨by omega, by omega⟩ (show 0 ≤ (0 : Int32).toInt ∧ (0 : Int32).toInt ≤ 6 by omega) (show (0 : Int32).toInt = 6 - ((6 : Nat) : Int) by omega) (show tp_l f_249 t = nb ∧ tp_a f_249 t = (rs_sk gb nb (rs_cdb gb nb 6 0 (rs_sk gb nb (rs_sk gb nb (rs_sk gb nb pb + 1) + 1))).2 + 1) by omega) (show 0 ≤ (rs_sk gb nb (rs_cdb gb nb 6 0 (rs_sk gb nb (rs_sk gb nb (rs_sk gb nb pb + 1) + 1))).2 + 1) ∧ nb ≤ 160 by omega) hTB) (cwV 4 G0.2.2.2.2 g_X4_readClause_X4_readChain_39 rfl rfl rfl (by decide +kernel) ⟨(Nat.le_of_ble_eq_true rfl), (Nat.le_of_ble_eq_true rfl)⟩) (py_preV hw (C := RX4) (T := TX4) (N := 1) rfl hr_195) rfl rfl hl.1 rfl (lv_room (Nat.le_of_ble_eq_true rfl)) dX4_readClause_132 ⟨(Nat.le_of_ble_eq_true rfl), (Nat.le_of_ble_eq_true rfl)⟩) (fun r_260 L_256 f_257 H_258 locs hp_259 hw => ?_)
                  obtain ⟨b_265, en_261, en_262, en_263, en_264, hWF, hq_266, kp_267⟩ := hp_259
                  have hTB := (gfn_kp (kp_f kp_267 (wt_8 hG Tt) (by decide) (by decide) (fun _ => by decide))).trans hTB
                  have hRP := hRP.trans hq_266
                  have hKP := hKP.trans kp_267 (by decide) (by decide)
                  have hr_195 := kp_at kp_267 hWF Th (by decide) (by decide) (by decide) hr_195
                  refine lv_if_ne (tgt := 140) G0.1 G0.2.1 dX4_readClause_135 (by decide) (fun c_268 => ?_) (fun c_268 => ?_)
                  · skip
                    have tc_268 := ti_ne c_268
                    replace en_263 := en_263 (by omega)
                    refine lv_aload_n G0.1 G0.2.1 dX4_readClause_140 rfl (lv_at hl 3 rfl) ?_
                    refine py_get (C := RX4) (T := TX4) (N := 1) (k := 0) (v := .ref r_193) G0 hw in_X4_readClause_X4 rfl hr_195 (by decide) (by decide +kernel) rfl dX4_readClause_141 ?_
                    refine lv_bipush (v := 59) G0.1 G0.2.1 dX4_readClause_144 (by decide) ?_
                    refine lv_iconst (v := 0) G0.1 G0.2.1 dX4_readClause_146 (by decide) ?_
                    obtain ⟨v_269, hr_271, b_270⟩ := wg_3 hWF ty_194
                    obtain ⟨v_272, v_273, v_274, hr_277, b_275, b_276⟩ := wg_8 hWF Tt
                    have bv_274 := wf_free v_274
                    have tq_278 := tp_eq hr_277
                    refine py_callv hw (va_runV (As := [.int 59, .int 0]) (rest := []) G0 (c_X3_add l E G L_256 f_257 H_258.size r_193 59 0 hG hWF ty_194) (cwV 2 G0.2.2.2.2 g_X4_readClause_X3_add_46 rfl rfl rfl (by decide +kernel) ⟨(Nat.le_of_ble_eq_true rfl), (Nat.le_of_ble_eq_true rfl)⟩) (py_preV hw (C := RX3) (T := TX3) (N := 3) rfl hr_271) rfl rfl hl.1 rfl (lv_room (Nat.le_of_ble_eq_true rfl)) dX4_readClause_147 ⟨(Nat.le_of_ble_eq_true rfl), (Nat.le_of_ble_eq_true rfl)⟩) (fun L_279 f_280 H_281 locs hp_282 hw => ?_)
                    obtain ⟨hWF, hq_284, kp_285⟩ := hp_282
                    have hTB := (gfn_kp (kp_f kp_285 (wt_8 hG Tt) (by decide) (by decide) (fun _ => by decide))).trans hTB
                    have hRP := hRP.trans hq_284
                    have hKP := hKP.trans kp_285 (by decide) (by decide)
                    have hr_195 := kp_at kp_285 hWF Th (by decide) (by decide) (by decide) hr_195
                    have hr_277 := kp_at kp_285 hWF Tt (by decide) (by decide) (by decide) hr_277
                    have tq_286 := tp_eq hr_277
                    refine lv_aload_n G0.1 G0.2.1 dX4_readClause_150 rfl (lv_at hl 3 rfl) ?_
                    refine py_get (C := RX4) (T := TX4) (N := 1) (k := 0) (v := .ref r_193) G0 hw in_X4_readClause_X4 rfl hr_195 (by decide) (by decide +kernel) rfl dX4_readClause_151 ?_
                    refine lv_iload G0.1 G0.2.1 dX4_readClause_154 (lv_at hl 0 rfl) ?_
                    obtain ⟨v_287, hr_289, b_288⟩ := wg_3 hWF ty_194
                    refine py_callv hw (va_runV (As := [.int v_238]) (rest := []) G0 (c_X3_aimHere l E G L_279 f_280 H_281.size r_193 v_238 hG hWF ty_194) (cwV 1 G0.2.2.2.2 g_X4_readClause_X3_aimHere_50 rfl rfl rfl (by decide +kernel) ⟨(Nat.le_of_ble_eq_true rfl), (Nat.le_of_ble_eq_true rfl)⟩) (py_preV hw (C := RX3) (T := TX3) (N := 3) rfl hr_289) rfl rfl hl.1 rfl (lv_room (Nat.le_of_ble_eq_true rfl)) dX4_readClause_156 ⟨(Nat.le_of_ble_eq_true rfl), (Nat.le_of_ble_eq_true rfl)⟩) (fun L_290 f_291 H_292 locs hp_293 hw => ?_)
                    obtain ⟨hWF, hq_295, kp_296⟩ := hp_293
                    have hTB := (gfn_kp (kp_f kp_296 (wt_8 hG Tt) (by decide) (by decide) (fun _ => by decide))).trans hTB
                    have hRP := hRP.trans hq_295
                    have hKP := hKP.trans kp_296 (by decide) (by decide)
                    have hr_195 := kp_at kp_296 hWF Th (by decide) (by decide) (by decide) hr_195
                    have hr_277 := kp_at kp_296 hWF Tt (by decide) (by decide) (by decide) hr_277
                    have tq_297 := tp_eq hr_277
                    have hr_289 := kp_at kp_296 hWF ty_194 (by decide) (by decide) (by decide) hr_289
                    refine lv_iconst (v := 1) G0.1 G0.2.1 dX4_readClause_159 (by decide) ?_
                    exact py_iret G0 hr rfl hlk hw ⟨⟨by omega, by omega⟩, (by first | omega | (intro q; omega)), (by first | omega | (intro q; omega)), (by first | omega | (intro q; omega)), (by first | exact rs_eqw ((rs_ca_b (by omega) (by omega)).trans ((rs_bd_cc (by omega)).trans ((rs_th_1 (by omega)).trans (rs_tl_1 (by omega))))) (by omega) (by omega)), hWF, hRP, hKP⟩ dX4_readClause_160
                  · skip
                    have tc_268 := ti_eq c_268
                    clear en_263
                    refine lv_iconst (v := 0) G0.1 G0.2.1 dX4_readClause_138 (by decide) ?_
                    obtain ⟨v_298, v_299, v_300, hr_303, b_301, b_302⟩ := wg_8 hWF Tt
                    have bv_300 := wf_free v_300
                    have tq_304 := tp_eq hr_303
                    exact py_iret G0 hr rfl hlk hw ⟨⟨by omega, by omega⟩, (by first | omega | (intro q; omega)), (by first | omega | (intro q; omega)), (by first | omega | (intro q; omega)), (by first | exact rs_eqw ((rs_ca_b (by omega) (by omega)).trans ((rs_bd_cc (by omega)).trans ((rs_th_1 (by omega)).trans (rs_tl_1 (by omega))))) (by omega) (by omega)), hWF, hRP, hKP⟩ dX4_readClause_139
                · skip
                  have tc_235 := ti_eq c_235
                  clear en_230
                  replace en_231 := en_231 (by omega)
                  refine lv_iconst (v := 0) G0.1 G0.2.1 dX4_readClause_106 (by decide) ?_
                  obtain ⟨v_305, v_306, v_307, hr_310, b_308, b_309⟩ := wg_8 hWF Tt
                  have bv_307 := wf_free v_307
                  have tq_311 := tp_eq hr_310
                  exact py_iret G0 hr rfl hlk hw ⟨⟨by omega, by omega⟩, (by first | omega | (intro q; omega)), (by first | omega | (intro q; omega)), (by first | omega | (intro q; omega)), (by first | exact rs_eq ((rs_ca_b (by omega) (by omega)).trans ((rs_bd_cc (by omega)).trans ((rs_th_1 (by omega)).trans (rs_tl_0 (by omega))))) (by omega) (by omega)), hWF, hRP, hKP⟩ dX4_readClause_107
            · skip
              exact absurd c_192 (by decide)
          · skip
            exact absurd c_191 (by decide)
        · skip
          have tc_190 := ti_ne c_190
          refine lv_iconst (v := 1) G0.1 G0.2.1 dX4_readClause_37 (by decide) ?_
          refine lv_goto (tgt := 42) G0.1 G0.2.1 dX4_readClause_38 (by decide) ?_
          refine lv_istore_n (lv' := [(3, .int 1), (2, .int r_60), (0, .ref h), (1, .ref t)]) G0.1 G0.2.1 dX4_readClause_42 rfl hl (by decide) rfl (fun ls hl => ?_)
          refine lv_iload_n G0.1 G0.2.1 dX4_readClause_43 rfl (lv_at hl 0 rfl) ?_
          refine lv_if_eq (tgt := 60) G0.1 G0.2.1 dX4_readClause_44 (by decide) (fun c_312 => ?_) (fun c_312 => ?_)
          · skip
            exact absurd c_312 (by decide)
          · skip
            have tc_312 := ti_ne c_312
            refine lv_aload_n G0.1 G0.2.1 dX4_readClause_47 rfl (lv_at hl 2 rfl) ?_
            refine lv_aload_n G0.1 G0.2.1 dX4_readClause_48 rfl (lv_at hl 3 rfl) ?_
            refine lv_iconst (v := 2) G0.1 G0.2.1 dX4_readClause_49 (by decide) ?_
            refine lv_iconst (v := 0) G0.1 G0.2.1 dX4_readClause_50 (by decide) ?_
            refine lv_iconst (v := 0) G0.1 G0.2.1 dX4_readClause_51 (by decide) ?_
            obtain ⟨r_313, hr_315, ty_314⟩ := wg_4 hWF Th
            refine py_calli hw (va_runV (As := [.ref t, .int 2, .int 0, .int 0]) (rest := []) G0 (rd_chain2 l E G hG L_56 f_57 H_58.size h t 0 0 gb nb (rs_sk gb nb (rs_sk gb nb (rs_sk gb nb pb + 1) + 1)) 6 hWF Th Tt ⟨by omega, by omega⟩ (show 0 ≤ (0 : Int32).toInt ∧ (0 : Int32).toInt ≤ 6 by omega) (show (0 : Int32).toInt = 6 - ((6 : Nat) : Int) by omega) (show tp_l f_57 t = nb ∧ tp_a f_57 t = (rs_sk gb nb (rs_sk gb nb (rs_sk gb nb pb + 1) + 1)) by omega) (show 0 ≤ (rs_sk gb nb (rs_sk gb nb (rs_sk gb nb pb + 1) + 1)) ∧ nb ≤ 160 by omega) hTB) (cwV 4 G0.2.2.2.2 g_X4_readClause_X4_readChain_39 rfl rfl rfl (by decide +kernel) ⟨(Nat.le_of_ble_eq_true rfl), (Nat.le_of_ble_eq_true rfl)⟩) (py_preV hw (C := RX4) (T := TX4) (N := 1) rfl hr_315) rfl rfl hl.1 rfl (lv_room (Nat.le_of_ble_eq_true rfl)) dX4_readClause_52 ⟨(Nat.le_of_ble_eq_true rfl), (Nat.le_of_ble_eq_true rfl)⟩) (fun r_320 L_316 f_317 H_318 locs hp_319 hw => ?_)
            obtain ⟨b_325, en_321, en_322, en_323, en_324, hWF, hq_326, kp_327⟩ := hp_319
            have hTB := (gfn_kp (kp_f kp_327 (wt_8 hG Tt) (by decide) (by decide) (fun _ => by decide))).trans hTB
            have hRP := hRP.trans hq_326
            have hKP := hKP.trans kp_327 (by decide) (by decide)
            have hr_315 := kp_at kp_327 hWF Th (by decide) (by decide) (by decide) hr_315
            refine lv_if_ne (tgt := 60) G0.1 G0.2.1 dX4_readClause_55 (by decide) (fun c_328 => ?_) (fun c_328 => ?_)
            · skip
              have tc_328 := ti_ne c_328
              replace en_323 := en_323 (by omega)
              refine lv_iload_n G0.1 G0.2.1 dX4_readClause_60 rfl (lv_at hl 0 rfl) ?_
              refine lv_if_eq (tgt := 86) G0.1 G0.2.1 dX4_readClause_61 (by decide) (fun c_329 => ?_) (fun c_329 => ?_)
              · skip
                exact absurd c_329 (by decide)
              · skip
                have tc_329 := ti_ne c_329
                refine lv_aload_n G0.1 G0.2.1 dX4_readClause_64 rfl (lv_at hl 3 rfl) ?_
                obtain ⟨v_330, v_331, v_332, hr_335, b_333, b_334⟩ := wg_8 hWF Tt
                have bv_332 := wf_free v_332
                have tq_336 := tp_eq hr_335
                refine py_calli hw (va_runV (As := []) (rest := []) G0 (c_X8_next l E G L_316 f_317 H_318.size t gb nb (rs_sm gb nb 6 (rs_sk gb nb (rs_sk gb nb (rs_sk gb nb pb + 1) + 1))).2 hG hWF Tt (show tp_l f_317 t = nb ∧ tp_a f_317 t = (rs_sm gb nb 6 (rs_sk gb nb (rs_sk gb nb (rs_sk gb nb pb + 1) + 1))).2 by omega) (show 0 ≤ (rs_sm gb nb 6 (rs_sk gb nb (rs_sk gb nb (rs_sk gb nb pb + 1) + 1))).2 ∧ nb ≤ 160 by omega) hTB) (cwV 0 G0.2.2.2.2 g_X4_readClause_X8_next_35 rfl rfl rfl (by decide +kernel) ⟨(Nat.le_of_ble_eq_true rfl), (Nat.le_of_ble_eq_true rfl)⟩) (py_preV hw (C := RX8) (T := TX8) (N := 4) rfl hr_335) rfl rfl hl.1 rfl (lv_room (Nat.le_of_ble_eq_true rfl)) dX4_readClause_65 ⟨(Nat.le_of_ble_eq_true rfl), (Nat.le_of_ble_eq_true rfl)⟩) (fun r_341 L_337 f_338 H_339 locs hp_340 hw => ?_)
                obtain ⟨en_342, en_343, en_344, en_345, en_346, hWF, hq_347, kp_348⟩ := hp_340
                have hTB := (gfn_kp (kp_f kp_348 (wt_8 hG Tt) (by decide) (by decide) (fun _ => by decide))).trans hTB
                have hRP := hRP.trans hq_347
                have hKP := hKP.trans kp_348 (by decide) (by decide)
                have hr_315 := kp_at kp_348 hWF Th (by decide) (by decide) (by decide) hr_315
                have br_341 := wf_free r_341
                refine py_calli hw (va_runS (As := [.int r_341]) (rest := []) G0 (c_X4_isComparison l E G L_337 f_338 H_339.size r_341 (rs_v gb nb (rs_sk gb nb (rs_sm gb nb 6 (rs_sk gb nb (rs_sk gb nb (rs_sk gb nb pb + 1) + 1))).2)) hG hWF (show r_341.toInt = (rs_v gb nb (rs_sk gb nb (rs_sm gb nb 6 (rs_sk gb nb (rs_sk gb nb (rs_sk gb nb pb + 1) + 1))).2)) by omega)) (va_cwS 1 G0.2.2.2.2 g_X4_readClause_X4_isComparison_43 rfl rfl rfl (by decide +kernel) ⟨(Nat.le_of_ble_eq_true rfl), (Nat.le_of_ble_eq_true rfl)⟩) (py_preS hw) rfl rfl hl.1 rfl (lv_room (Nat.le_of_ble_eq_true rfl)) dX4_readClause_68 ⟨(Nat.le_of_ble_eq_true rfl), (Nat.le_of_ble_eq_true rfl)⟩) (fun r_353 L_349 f_350 H_351 locs hp_352 hw => ?_)
                obtain ⟨b_357, en_354, en_355, en_356, rfl, rfl⟩ := hp_352
                refine lv_if_ne (tgt := 86) G0.1 G0.2.1 dX4_readClause_71 (by decide) (fun c_358 => ?_) (fun c_358 => ?_)
                · skip
                  have tc_358 := ti_ne c_358
                  replace en_354 := en_354 (by omega)
                  replace en_355 := en_355 (by omega)
                  clear en_356
                  refine lv_aload_n G0.1 G0.2.1 dX4_readClause_86 rfl (lv_at hl 2 rfl) ?_
                  refine lv_aload_n G0.1 G0.2.1 dX4_readClause_87 rfl (lv_at hl 3 rfl) ?_
                  refine lv_iconst (v := 0) G0.1 G0.2.1 dX4_readClause_88 (by decide) ?_
                  refine lv_iconst (v := 0) G0.1 G0.2.1 dX4_readClause_89 (by decide) ?_
                  refine lv_iload_n G0.1 G0.2.1 dX4_readClause_90 rfl (lv_at hl 0 rfl) ?_
                  refine py_calli hw (va_runV (As := [.ref t, .int 0, .int 0, .int 1]) (rest := []) G0 (rd_chain0 l E G hG L_337 f_338 H_351.size h t 0 1 gb nb (rs_sk gb nb (rs_sm gb nb 6 (rs_sk gb nb (rs_sk gb nb (rs_sk gb nb pb + 1) + 1))).2) 6 1 hWF Th Tt ⟨by omega, by omega⟩ (show 0 ≤ (0 : Int32).toInt ∧ (0 : Int32).toInt ≤ 6 by omega) (show (1 : Int32).toInt = 1 by omega) (show (0 : Int32).toInt = 6 - ((6 : Nat) : Int) by omega) (show tp_l f_338 t = nb ∧ tp_a f_338 t = (rs_sk gb nb (rs_sm gb nb 6 (rs_sk gb nb (rs_sk gb nb (rs_sk gb nb pb + 1) + 1))).2) by omega) (show 0 ≤ (rs_sk gb nb (rs_sm gb nb 6 (rs_sk gb nb (rs_sk gb nb (rs_sk gb nb pb + 1) + 1))).2) ∧ nb ≤ 160 by omega) hTB) (cwV 4 G0.2.2.2.2 g_X4_readClause_X4_readChain_39 rfl rfl rfl (by decide +kernel) ⟨(Nat.le_of_ble_eq_true rfl), (Nat.le_of_ble_eq_true rfl)⟩) (py_preV hw (C := RX4) (T := TX4) (N := 1) rfl hr_315) rfl rfl hl.1 rfl (lv_room (Nat.le_of_ble_eq_true rfl)) dX4_readClause_91 ⟨(Nat.le_of_ble_eq_true rfl), (Nat.le_of_ble_eq_true rfl)⟩) (fun r_363 L_359 f_360 H_361 locs hp_362 hw => ?_)
                  obtain ⟨b_368, en_364, en_365, en_366, en_367, hWF, hq_369, kp_370⟩ := hp_362
                  have hTB := (gfn_kp (kp_f kp_370 (wt_8 hG Tt) (by decide) (by decide) (fun _ => by decide))).trans hTB
                  have hRP := hRP.trans hq_369
                  have hKP := hKP.trans kp_370 (by decide) (by decide)
                  have hr_315 := kp_at kp_370 hWF Th (by decide) (by decide) (by decide) hr_315
                  refine lv_if_eq (tgt := 106) G0.1 G0.2.1 dX4_readClause_94 (by decide) (fun c_371 => ?_) (fun c_371 => ?_)
                  · skip
                    have tc_371 := ti_eq c_371
                    clear en_366
                    refine lv_iconst (v := 0) G0.1 G0.2.1 dX4_readClause_106 (by decide) ?_
                    obtain ⟨v_372, v_373, v_374, hr_377, b_375, b_376⟩ := wg_8 hWF Tt
                    have bv_374 := wf_free v_374
                    have tq_378 := tp_eq hr_377
                    exact py_iret G0 hr rfl hlk hw ⟨⟨by omega, by omega⟩, (by first | omega | (intro q; omega)), (by first | omega | (intro q; omega)), (by first | omega | (intro q; omega)), (by first | exact rs_eqw ((rs_ca_b (by omega) (by omega)).trans ((rs_bd_s (by omega)).trans ((rs_th_1 (by omega)).trans ((rs_sc_c (by omega)).trans (rs_th_0 (by omega)))))) (by omega) (by omega)), hWF, hRP, hKP⟩ dX4_readClause_107
                  · skip
                    have tc_371 := ti_ne c_371
                    replace en_366 := en_366 (by omega)
                    refine lv_aload_n G0.1 G0.2.1 dX4_readClause_97 rfl (lv_at hl 3 rfl) ?_
                    refine lv_bipush (v := 63) G0.1 G0.2.1 dX4_readClause_98 (by decide) ?_
                    obtain ⟨v_379, v_380, v_381, hr_384, b_382, b_383⟩ := wg_8 hWF Tt
                    have bv_381 := wf_free v_381
                    have tq_385 := tp_eq hr_384
                    refine py_calli hw (va_runV (As := [.int 63]) (rest := []) G0 (c_X8_take l E G L_359 f_360 H_361.size t 63 gb nb (rs_cdb gb nb 6 1 (rs_sk gb nb (rs_sm gb nb 6 (rs_sk gb nb (rs_sk gb nb (rs_sk gb nb pb + 1) + 1))).2)).2 hG hWF Tt ⟨by omega, by omega⟩ (show tp_l f_360 t = nb ∧ tp_a f_360 t = (rs_cdb gb nb 6 1 (rs_sk gb nb (rs_sm gb nb 6 (rs_sk gb nb (rs_sk gb nb (rs_sk gb nb pb + 1) + 1))).2)).2 by omega) (show 0 ≤ (rs_cdb gb nb 6 1 (rs_sk gb nb (rs_sm gb nb 6 (rs_sk gb nb (rs_sk gb nb (rs_sk gb nb pb + 1) + 1))).2)).2 ∧ nb ≤ 160 by omega) hTB) (cwV 1 G0.2.2.2.2 g_X4_readClause_X8_take_31 rfl rfl rfl (by decide +kernel) ⟨(Nat.le_of_ble_eq_true rfl), (Nat.le_of_ble_eq_true rfl)⟩) (py_preV hw (C := RX8) (T := TX8) (N := 4) rfl hr_384) rfl rfl hl.1 rfl (lv_room (Nat.le_of_ble_eq_true rfl)) dX4_readClause_100 ⟨(Nat.le_of_ble_eq_true rfl), (Nat.le_of_ble_eq_true rfl)⟩) (fun r_390 L_386 f_387 H_388 locs hp_389 hw => ?_)
                    obtain ⟨b_395, en_391, en_392, en_393, en_394, hWF, hq_396, kp_397⟩ := hp_389
                    have hTB := (gfn_kp (kp_f kp_397 (wt_8 hG Tt) (by decide) (by decide) (fun _ => by decide))).trans hTB
                    have hRP := hRP.trans hq_396
                    have hKP := hKP.trans kp_397 (by decide) (by decide)
                    have hr_315 := kp_at kp_397 hWF Th (by decide) (by decide) (by decide) hr_315
                    refine lv_if_ne (tgt := 108) G0.1 G0.2.1 dX4_readClause_103 (by decide) (fun c_398 => ?_) (fun c_398 => ?_)
                    · skip
                      have tc_398 := ti_ne c_398
                      replace en_393 := en_393 (by omega)
                      clear en_394
                      refine lv_aload_n G0.1 G0.2.1 dX4_readClause_108 rfl (lv_at hl 2 rfl) ?_
                      refine py_get (C := RX4) (T := TX4) (N := 1) (k := 0) (v := .ref r_313) G0 hw in_X4_readClause_X4 rfl hr_315 (by decide) (by decide +kernel) rfl dX4_readClause_109 ?_
                      obtain ⟨t_399, t_400⟩ := wt_3 hG ty_314
                      obtain ⟨v_401, hr_403, b_402⟩ := wg_3 hWF ty_314
                      refine py_get (C := RX3) (T := TX3) (N := 3) (k := 2) (v := .int v_401) G0 hw in_X4_readClause_X3 rfl hr_403 (by decide) (by decide +kernel) rfl dX4_readClause_112 ?_
                      refine lv_istore (lv' := [(4, .int v_401), (3, .int 1), (2, .int r_60), (0, .ref h), (1, .ref t)]) G0.1 G0.2.1 dX4_readClause_115 hl (by decide) rfl (fun ls hl => ?_)
                      refine lv_aload_n G0.1 G0.2.1 dX4_readClause_117 rfl (lv_at hl 3 rfl) ?_
                      refine py_get (C := RX4) (T := TX4) (N := 1) (k := 0) (v := .ref r_313) G0 hw in_X4_readClause_X4 rfl hr_315 (by decide) (by decide +kernel) rfl dX4_readClause_118 ?_
                      refine lv_bipush (v := 63) G0.1 G0.2.1 dX4_readClause_121 (by decide) ?_
                      refine lv_iconst (v := 0) G0.1 G0.2.1 dX4_readClause_123 (by decide) ?_
                      obtain ⟨v_404, v_405, v_406, hr_409, b_407, b_408⟩ := wg_8 hWF Tt
                      have bv_406 := wf_free v_406
                      have tq_410 := tp_eq hr_409
                      refine py_callv hw (va_runV (As := [.int 63, .int 0]) (rest := []) G0 (c_X3_add l E G L_386 f_387 H_388.size r_313 63 0 hG hWF ty_314) (cwV 2 G0.2.2.2.2 g_X4_readClause_X3_add_46 rfl rfl rfl (by decide +kernel) ⟨(Nat.le_of_ble_eq_true rfl), (Nat.le_of_ble_eq_true rfl)⟩) (py_preV hw (C := RX3) (T := TX3) (N := 3) rfl hr_403) rfl rfl hl.1 rfl (lv_room (Nat.le_of_ble_eq_true rfl)) dX4_readClause_124 ⟨(Nat.le_of_ble_eq_true rfl), (Nat.le_of_ble_eq_true rfl)⟩) (fun L_411 f_412 H_413 locs hp_414 hw => ?_)
                      obtain ⟨hWF, hq_416, kp_417⟩ := hp_414
                      have hTB := (gfn_kp (kp_f kp_417 (wt_8 hG Tt) (by decide) (by decide) (fun _ => by decide))).trans hTB
                      have hRP := hRP.trans hq_416
                      have hKP := hKP.trans kp_417 (by decide) (by decide)
                      have hr_315 := kp_at kp_417 hWF Th (by decide) (by decide) (by decide) hr_315
                      have hr_409 := kp_at kp_417 hWF Tt (by decide) (by decide) (by decide) hr_409
                      have tq_418 := tp_eq hr_409
                      refine lv_aload_n G0.1 G0.2.1 dX4_readClause_127 rfl (lv_at hl 3 rfl) ?_
                      refine lv_aload_n G0.1 G0.2.1 dX4_readClause_128 rfl (lv_at hl 4 rfl) ?_
                      refine lv_iconst (v := 2) G0.1 G0.2.1 dX4_readClause_129 (by decide) ?_
                      refine lv_iconst (v := 0) G0.1 G0.2.1 dX4_readClause_130 (by decide) ?_
                      refine lv_iconst (v := 0) G0.1 G0.2.1 dX4_readClause_131 (by decide) ?_
                      refine py_calli hw (va_runV (As := [.ref t, .int 2, .int 0, .int 0]) (rest := []) G0 (rd_chain2 l E G hG L_411 f_412 H_413.size h t 0 0 gb nb (rs_sk gb nb (rs_cdb gb nb 6 1 (rs_sk gb nb (rs_sm gb nb 6 (rs_sk gb nb (rs_sk gb nb (rs_sk gb nb pb + 1) + 1))).2)).2 + 1) 6 hWF Th Tt ⟨by omega, by omega⟩ (show 0 ≤ (0 : Int32).toInt ∧ (0 : Int32).toInt ≤ 6 by omega) (show (0 : Int32).toInt = 6 - ((6 : Nat) : Int) by omega) (show tp_l f_412 t = nb ∧ tp_a f_412 t = (rs_sk gb nb (rs_cdb gb nb 6 1 (rs_sk gb nb (rs_sm gb nb 6 (rs_sk gb nb (rs_sk gb nb (rs_sk gb nb pb + 1) + 1))).2)).2 + 1) by omega) (show 0 ≤ (rs_sk gb nb (rs_cdb gb nb 6 1 (rs_sk gb nb (rs_sm gb nb 6 (rs_sk gb nb (rs_sk gb nb (rs_sk gb nb pb + 1) + 1))).2)).2 + 1) ∧ nb ≤ 160 by omega) hTB) (cwV 4 G0.2.2.2.2 g_X4_readClause_X4_readChain_39 rfl rfl rfl (by decide +kernel) ⟨(Nat.le_of_ble_eq_true rfl), (Nat.le_of_ble_eq_true rfl)⟩) (py_preV hw (C := RX4) (T := TX4) (N := 1) rfl hr_315) rfl rfl hl.1 rfl (lv_room (Nat.le_of_ble_eq_true rfl)) dX4_readClause_132 ⟨(Nat.le_of_ble_eq_true rfl), (Nat.le_of_ble_eq_true rfl)⟩) (fun r_423 L_419 f_420 H_421 locs hp_422 hw => ?_)
                      obtain ⟨b_428, en_424, en_425, en_426, en_427, hWF, hq_429, kp_430⟩ := hp_422
                      have hTB := (gfn_kp (kp_f kp_430 (wt_8 hG Tt) (by decide) (by decide) (fun _ => by decide))).trans hTB
                      have hRP := hRP.trans hq_429
                      have hKP := hKP.trans kp_430 (by decide) (by decide)
                      have hr_315 := kp_at kp_430 hWF Th (by decide) (by decide) (by decide) hr_315
                      refine lv_if_ne (tgt := 140) G0.1 G0.2.1 dX4_readClause_135 (by decide) (fun c_431 => ?_) (fun c_431 => ?_)
                      · skip
                        have tc_431 := ti_ne c_431
                        replace en_426 := en_426 (by omega)
                        refine lv_aload_n G0.1 G0.2.1 dX4_readClause_140 rfl (lv_at hl 3 rfl) ?_
                        refine py_get (C := RX4) (T := TX4) (N := 1) (k := 0) (v := .ref r_313) G0 hw in_X4_readClause_X4 rfl hr_315 (by decide) (by decide +kernel) rfl dX4_readClause_141 ?_
                        refine lv_bipush (v := 59) G0.1 G0.2.1 dX4_readClause_144 (by decide) ?_
                        refine lv_iconst (v := 0) G0.1 G0.2.1 dX4_readClause_146 (by decide) ?_
                        obtain ⟨v_432, hr_434, b_433⟩ := wg_3 hWF ty_314
                        obtain ⟨v_435, v_436, v_437, hr_440, b_438, b_439⟩ := wg_8 hWF Tt
                        have bv_437 := wf_free v_437
                        have tq_441 := tp_eq hr_440
                        refine py_callv hw (va_runV (As := [.int 59, .int 0]) (rest := []) G0 (c_X3_add l E G L_419 f_420 H_421.size r_313 59 0 hG hWF ty_314) (cwV 2 G0.2.2.2.2 g_X4_readClause_X3_add_46 rfl rfl rfl (by decide +kernel) ⟨(Nat.le_of_ble_eq_true rfl), (Nat.le_of_ble_eq_true rfl)⟩) (py_preV hw (C := RX3) (T := TX3) (N := 3) rfl hr_434) rfl rfl hl.1 rfl (lv_room (Nat.le_of_ble_eq_true rfl)) dX4_readClause_147 ⟨(Nat.le_of_ble_eq_true rfl), (Nat.le_of_ble_eq_true rfl)⟩) (fun L_442 f_443 H_444 locs hp_445 hw => ?_)
                        obtain ⟨hWF, hq_447, kp_448⟩ := hp_445
                        have hTB := (gfn_kp (kp_f kp_448 (wt_8 hG Tt) (by decide) (by decide) (fun _ => by decide))).trans hTB
                        have hRP := hRP.trans hq_447
                        have hKP := hKP.trans kp_448 (by decide) (by decide)
                        have hr_315 := kp_at kp_448 hWF Th (by decide) (by decide) (by decide) hr_315
                        have hr_440 := kp_at kp_448 hWF Tt (by decide) (by decide) (by decide) hr_440
                        have tq_449 := tp_eq hr_440
                        refine lv_aload_n G0.1 G0.2.1 dX4_readClause_150 rfl (lv_at hl 3 rfl) ?_
                        refine py_get (C := RX4) (T := TX4) (N := 1) (k := 0) (v := .ref r_313) G0 hw in_X4_readClause_X4 rfl hr_315 (by decide) (by decide +kernel) rfl dX4_readClause_151 ?_
                        refine lv_iload G0.1 G0.2.1 dX4_readClause_154 (lv_at hl 0 rfl) ?_
                        obtain ⟨v_450, hr_452, b_451⟩ := wg_3 hWF ty_314
                        refine py_callv hw (va_runV (As := [.int v_401]) (rest := []) G0 (c_X3_aimHere l E G L_442 f_443 H_444.size r_313 v_401 hG hWF ty_314) (cwV 1 G0.2.2.2.2 g_X4_readClause_X3_aimHere_50 rfl rfl rfl (by decide +kernel) ⟨(Nat.le_of_ble_eq_true rfl), (Nat.le_of_ble_eq_true rfl)⟩) (py_preV hw (C := RX3) (T := TX3) (N := 3) rfl hr_452) rfl rfl hl.1 rfl (lv_room (Nat.le_of_ble_eq_true rfl)) dX4_readClause_156 ⟨(Nat.le_of_ble_eq_true rfl), (Nat.le_of_ble_eq_true rfl)⟩) (fun L_453 f_454 H_455 locs hp_456 hw => ?_)
                        obtain ⟨hWF, hq_458, kp_459⟩ := hp_456
                        have hTB := (gfn_kp (kp_f kp_459 (wt_8 hG Tt) (by decide) (by decide) (fun _ => by decide))).trans hTB
                        have hRP := hRP.trans hq_458
                        have hKP := hKP.trans kp_459 (by decide) (by decide)
                        have hr_315 := kp_at kp_459 hWF Th (by decide) (by decide) (by decide) hr_315
                        have hr_440 := kp_at kp_459 hWF Tt (by decide) (by decide) (by decide) hr_440
                        have tq_460 := tp_eq hr_440
                        have hr_452 := kp_at kp_459 hWF ty_314 (by decide) (by decide) (by decide) hr_452
                        refine lv_iconst (v := 1) G0.1 G0.2.1 dX4_readClause_159 (by decide) ?_
                        exact py_iret G0 hr rfl hlk hw ⟨⟨by omega, by omega⟩, (by first | omega | (intro q; omega)), (by first | omega | (intro q; omega)), (by first | omega | (intro q; omega)), (by first | exact rs_eqw ((rs_ca_b (by omega) (by omega)).trans ((rs_bd_s (by omega)).trans ((rs_th_1 (by omega)).trans ((rs_sc_c (by omega)).trans ((rs_th_1 (by omega)).trans (rs_tl_1 (by omega))))))) (by omega) (by omega)), hWF, hRP, hKP⟩ dX4_readClause_160
                      · skip
                        have tc_431 := ti_eq c_431
                        clear en_426
                        refine lv_iconst (v := 0) G0.1 G0.2.1 dX4_readClause_138 (by decide) ?_
                        obtain ⟨v_461, v_462, v_463, hr_466, b_464, b_465⟩ := wg_8 hWF Tt
                        have bv_463 := wf_free v_463
                        have tq_467 := tp_eq hr_466
                        exact py_iret G0 hr rfl hlk hw ⟨⟨by omega, by omega⟩, (by first | omega | (intro q; omega)), (by first | omega | (intro q; omega)), (by first | omega | (intro q; omega)), (by first | exact rs_eqw ((rs_ca_b (by omega) (by omega)).trans ((rs_bd_s (by omega)).trans ((rs_th_1 (by omega)).trans ((rs_sc_c (by omega)).trans ((rs_th_1 (by omega)).trans (rs_tl_1 (by omega))))))) (by omega) (by omega)), hWF, hRP, hKP⟩ dX4_readClause_139
                    · skip
                      have tc_398 := ti_eq c_398
                      clear en_393
                      replace en_394 := en_394 (by omega)
                      refine lv_iconst (v := 0) G0.1 G0.2.1 dX4_readClause_106 (by decide) ?_
                      obtain ⟨v_468, v_469, v_470, hr_473, b_471, b_472⟩ := wg_8 hWF Tt
                      have bv_470 := wf_free v_470
                      have tq_474 := tp_eq hr_473
                      exact py_iret G0 hr rfl hlk hw ⟨⟨by omega, by omega⟩, (by first | omega | (intro q; omega)), (by first | omega | (intro q; omega)), (by first | omega | (intro q; omega)), (by first | exact rs_eq ((rs_ca_b (by omega) (by omega)).trans ((rs_bd_s (by omega)).trans ((rs_th_1 (by omega)).trans ((rs_sc_c (by omega)).trans ((rs_th_1 (by omega)).trans (rs_tl_0 (by omega))))))) (by omega) (by omega)), hWF, hRP, hKP⟩ dX4_readClause_107
                · skip
                  have tc_358 := ti_eq c_358
                  clear en_354
                  clear en_355
                  replace en_356 := en_356 (by omega)
                  refine lv_aload_n G0.1 G0.2.1 dX4_readClause_74 rfl (lv_at hl 2 rfl) ?_
                  refine py_get (C := RX4) (T := TX4) (N := 1) (k := 0) (v := .ref r_313) G0 hw in_X4_readClause_X4 rfl hr_315 (by decide) (by decide +kernel) rfl dX4_readClause_75 ?_
                  refine lv_bipush (v := 59) G0.1 G0.2.1 dX4_readClause_78 (by decide) ?_
                  refine lv_iconst (v := 0) G0.1 G0.2.1 dX4_readClause_80 (by decide) ?_
                  obtain ⟨t_475, t_476⟩ := wt_3 hG ty_314
                  obtain ⟨v_477, hr_479, b_478⟩ := wg_3 hWF ty_314
                  obtain ⟨v_480, v_481, v_482, hr_485, b_483, b_484⟩ := wg_8 hWF Tt
                  have bv_482 := wf_free v_482
                  have tq_486 := tp_eq hr_485
                  refine py_callv hw (va_runV (As := [.int 59, .int 0]) (rest := []) G0 (c_X3_add l E G L_337 f_338 H_351.size r_313 59 0 hG hWF ty_314) (cwV 2 G0.2.2.2.2 g_X4_readClause_X3_add_46 rfl rfl rfl (by decide +kernel) ⟨(Nat.le_of_ble_eq_true rfl), (Nat.le_of_ble_eq_true rfl)⟩) (py_preV hw (C := RX3) (T := TX3) (N := 3) rfl hr_479) rfl rfl hl.1 rfl (lv_room (Nat.le_of_ble_eq_true rfl)) dX4_readClause_81 ⟨(Nat.le_of_ble_eq_true rfl), (Nat.le_of_ble_eq_true rfl)⟩) (fun L_487 f_488 H_489 locs hp_490 hw => ?_)
                  obtain ⟨hWF, hq_492, kp_493⟩ := hp_490
                  have hTB := (gfn_kp (kp_f kp_493 (wt_8 hG Tt) (by decide) (by decide) (fun _ => by decide))).trans hTB
                  have hRP := hRP.trans hq_492
                  have hKP := hKP.trans kp_493 (by decide) (by decide)
                  have hr_315 := kp_at kp_493 hWF Th (by decide) (by decide) (by decide) hr_315
                  have hr_485 := kp_at kp_493 hWF Tt (by decide) (by decide) (by decide) hr_485
                  have tq_494 := tp_eq hr_485
                  refine lv_iconst (v := 1) G0.1 G0.2.1 dX4_readClause_84 (by decide) ?_
                  exact py_iret G0 hr rfl hlk hw ⟨⟨by omega, by omega⟩, (by first | omega | (intro q; omega)), (by first | omega | (intro q; omega)), (by first | omega | (intro q; omega)), (by first | exact rs_eq ((rs_ca_b (by omega) (by omega)).trans ((rs_bd_s (by omega)).trans ((rs_th_1 (by omega)).trans (rs_sc_0 (by omega))))) (by omega) (by omega)), hWF, hRP, hKP⟩ dX4_readClause_85
            · skip
              have tc_328 := ti_eq c_328
              clear en_323
              refine lv_iconst (v := 0) G0.1 G0.2.1 dX4_readClause_58 (by decide) ?_
              obtain ⟨v_495, v_496, v_497, hr_500, b_498, b_499⟩ := wg_8 hWF Tt
              have bv_497 := wf_free v_497
              have tq_501 := tp_eq hr_500
              exact py_iret G0 hr rfl hlk hw ⟨⟨by omega, by omega⟩, (by first | omega | (intro q; omega)), (by first | omega | (intro q; omega)), (by first | omega | (intro q; omega)), (by first | exact rs_eqw ((rs_ca_b (by omega) (by omega)).trans ((rs_bd_s (by omega)).trans (rs_th_0 (by omega)))) (by omega) (by omega)), hWF, hRP, hKP⟩ dX4_readClause_59
    · skip
      have tc_48 := ti_eq c_48
      clear en_43
      replace en_44 := en_44 (by omega)
      refine lv_iconst (v := 0) G0.1 G0.2.1 dX4_readClause_18 (by decide) ?_
      obtain ⟨v_502, v_503, v_504, hr_507, b_505, b_506⟩ := wg_8 hWF Tt
      have bv_504 := wf_free v_504
      have tq_508 := tp_eq hr_507
      exact py_iret G0 hr rfl hlk hw ⟨⟨by omega, by omega⟩, (by first | omega | (intro q; omega)), (by first | omega | (intro q; omega)), (by first | omega | (intro q; omega)), (by first | exact rs_eq (rs_ca_y (by omega)) (by omega) (by omega) | exact rs_eq (rs_ca_d (by omega) (by omega)) (by omega) (by omega)), hWF, hRP, hKP⟩ dX4_readClause_19

def w_X4_faultOf : List Cond := .code yX4_faultOf cX4_faultOf 4 (some .int) :: ([Cond.fieldLink RX4 18 "HeadYear$Tape" "at" "I", Cond.fieldLink RX4 12 "HeadYear$LawReader" "draft" "LHeadYear$Law;", Cond.fieldLink RX4 24 "HeadYear$Law" "length" "I", Cond.methodLink RX4 27 yX4_readClause, Cond.instanceMethod yX4_readClause, Cond.selects RX4 yX4_readClause yX4_readClause, Cond.initialized RX4, Cond.methodLink RX4 35 yX8_next, Cond.instanceMethod yX8_next, Cond.selects RX8 yX8_next yX8_next, Cond.initialized RX8, Cond.methodLink RX4 31 yX8_take, Cond.instanceMethod yX8_take, Cond.selects RX8 yX8_take yX8_take] ++ (u_ws RX8 TX8 4 ++ (u_ws RX4 TX4 1 ++ (u_ws RX3 TX3 3 ++ (w_X4_readClause ++ (w_X8_next ++ (w_X8_take ++ ([]))))))))
theorem in_X4_faultOf_X8 : ∀ w ∈ u_ws RX8 TX8 4, w ∈ w_X4_faultOf := fun _ h => List.mem_cons_of_mem _ (List.mem_append_right _ (List.mem_append_left _ h))
theorem in_X4_faultOf_X4 : ∀ w ∈ u_ws RX4 TX4 1, w ∈ w_X4_faultOf := fun _ h => List.mem_cons_of_mem _ (List.mem_append_right _ (List.mem_append_right _ (List.mem_append_left _ h)))
theorem in_X4_faultOf_X3 : ∀ w ∈ u_ws RX3 TX3 3, w ∈ w_X4_faultOf := fun _ h => List.mem_cons_of_mem _ (List.mem_append_right _ (List.mem_append_right _ (List.mem_append_right _ (List.mem_append_left _ h))))
theorem gg_X4_faultOf_X4_readClause : GoodIn w_X4_faultOf w_X4_readClause := goodIn_sub (fun _ h => List.mem_cons_of_mem _ (List.mem_append_right _ (List.mem_append_right _ (List.mem_append_right _ (List.mem_append_right _ (List.mem_append_left _ h)))))) (by decide +kernel)
theorem gg_X4_faultOf_X8_next : GoodIn w_X4_faultOf w_X8_next := goodIn_sub (fun _ h => List.mem_cons_of_mem _ (List.mem_append_right _ (List.mem_append_right _ (List.mem_append_right _ (List.mem_append_right _ (List.mem_append_right _ (List.mem_append_left _ h))))))) (by decide +kernel)
theorem gg_X4_faultOf_X8_take : GoodIn w_X4_faultOf w_X8_take := goodIn_sub (fun _ h => List.mem_cons_of_mem _ (List.mem_append_right _ (List.mem_append_right _ (List.mem_append_right _ (List.mem_append_right _ (List.mem_append_right _ (List.mem_append_right _ (List.mem_append_left _ h)))))))) (by decide +kernel)
theorem g_X4_faultOf_X4_readClause_27 : GoodIn w_X4_faultOf (wsV RX4 27 RX4 yX4_readClause w_X4_readClause) := goodIn_app (goodIn_of _ (by decide +kernel)) gg_X4_faultOf_X4_readClause
theorem g_X4_faultOf_X8_next_35 : GoodIn w_X4_faultOf (wsV RX4 35 RX8 yX8_next w_X8_next) := goodIn_app (goodIn_of _ (by decide +kernel)) gg_X4_faultOf_X8_next
theorem g_X4_faultOf_X8_take_31 : GoodIn w_X4_faultOf (wsV RX4 31 RX8 yX8_take w_X8_take) := goodIn_app (goodIn_of _ (by decide +kernel)) gg_X4_faultOf_X8_take
set_option maxHeartbeats 4000000 in
set_option maxRecDepth 100000 in
theorem c_X4_faultOf (l : Launch) (E : py_E) (G : wf_G) (L : List Nat) (f : py_F) (sz : Nat) (h : Nat) (t : Nat) (gb : rs_B) (nb : Int) (hG : GT G) (hWF : WF E G L f) (Th : G.1 h = 5) (Tt : G.1 t = 9) (hp0 : tp_l f t = nb) (hp1 : 0 ≤ nb ∧ nb ≤ 160) (hq0 : gfn f (G.2 t 0) = gb) (hq1 : rs_tb gb nb) : Met l yX4_faultOf w_X4_faultOf ({ frames := 61, cells := 0, slots := 0, locals := 3292 }) (py_Pc E [.ref h, .ref t] L f sz) (py_Qi E L f sz (fun r L1 f1 => ((-1) ≤ r.toInt ∧ r.toInt ≤ 160) ∧ (tp_l f1 t = nb) ∧ (r.toInt = rs_law gb nb) ∧ WF E G L1 f1 ∧ RP E G f f1 ∧ KP G [9, 4, 20] false f f1)) 0 0 (va_A (va_pl L f) sz) := by
  refine Met.ofW (cc := cX4_faultOf) (maxL := 4) (ret := (some .int)) (by decide) rfl ?_
  intro p e s m args below meth c s₁ B hml hv
  obtain ⟨rfl, rfl, hw⟩ := py_start hv
  have G0 : CallFix p m c cX4_faultOf 4 s _ w_X4_faultOf RX4 := ⟨B.exec, B.bytes, hml, findClass_of_methodNamed B.named, atoms_spec (ws := w_X4_faultOf) B.pre⟩
  have hr := B.returns
  have hlk := B.notSynchronized
  have kcm1 : (-1 : Int32).toInt = -1 := rfl
  have kc0 : (0 : Int32).toInt = 0 := rfl
  have kc1 : (1 : Int32).toInt = 1 := rfl
  have kc59 : (59 : Int32).toInt = 59 := rfl
  have kc160 : (160 : Int32).toInt = 160 := rfl
  have hl := lv_entry ([.ref h, .ref t]) (n := 4) (Nat.le_of_ble_eq_true rfl)
  rw [lg_entry_eq]
  generalize (lg_sl ([.ref h, .ref t]) ++ List.replicate (4 - (lg_sl ([.ref h, .ref t])).length) Slot.unset).toArray = ls at hl ⊢
  have hl : lv_has ls 4 [(0, .ref h), (1, .ref t)] := hl
  have hRP : RP E G f f := RP.refl
  have hKP : KP G [9, 4, 20] false f f := KP.refl
  have hTB := hq0
  refine lv_aload_n G0.1 G0.2.1 dX4_faultOf_0 rfl (lv_at hl 1 rfl) ?_
  refine lv_iconst (v := 0) G0.1 G0.2.1 dX4_faultOf_1 (by decide) ?_
  have t_1 := wt_8 hG Tt
  obtain ⟨v_2, v_3, v_4, hr_7, b_5, b_6⟩ := wg_8 hWF Tt
  have bv_4 := wf_free v_4
  have tq_8 := tp_eq hr_7
  refine py_put (C := RX8) (T := TX8) (N := 4) (k := 2) (v := .int 0) (fs' := [.ref (G.2 t 0), .int v_2, .int 0, .int v_4]) (ty0 := tyX8) G0 hw tyX8_ok nmX8 in_X4_faultOf_X8 rfl hr_7 (by decide) (by decide +kernel) rfl rfl rfl rfl (Nat.le_of_ble_eq_true rfl) rfl dX4_faultOf_2 (fun f_9 H_10 locs h_11 x_12 hw => ?_)
  have hTB := (gfn_kp (kp_f (KP.refl.upd hWF x_12 Tt (Or.inl (by decide)) : KP G [9] false f f_9) (wt_8 hG Tt) (by decide) (by decide) (fun _ => by decide))).trans hTB
  have hKP := hKP.upd hWF x_12 Tt (Or.inl (by decide))
  have hRP := hRP.trans (rp_upd hG hWF x_12 hr_7.2 h_11.2 (rp_code hG Tt (by decide)) rfl)
  have hWF := wf_upd hWF h_11 x_12 (by rw [Tt]; exact ⟨v_2, 0, v_4, rfl, ⟨by omega, by omega⟩, ⟨by omega, by omega⟩⟩)
  have tq_13 := tp_eq h_11
  refine lv_aload_n G0.1 G0.2.1 dX4_faultOf_5 rfl (lv_at hl 0 rfl) ?_
  obtain ⟨r_14, hr_16, ty_15⟩ := wg_4 hWF Th
  refine py_get (C := RX4) (T := TX4) (N := 1) (k := 0) (v := .ref r_14) G0 hw in_X4_faultOf_X4 rfl hr_16 (by decide) (by decide +kernel) rfl dX4_faultOf_6 ?_
  refine lv_iconst (v := 0) G0.1 G0.2.1 dX4_faultOf_9 (by decide) ?_
  obtain ⟨t_17, t_18⟩ := wt_3 hG ty_15
  obtain ⟨v_19, hr_21, b_20⟩ := wg_3 hWF ty_15
  refine py_put (C := RX3) (T := TX3) (N := 3) (k := 2) (v := .int 0) (fs' := [.ref (G.2 r_14 0), .ref (G.2 r_14 1), .int 0]) (ty0 := tyX3) G0 hw tyX3_ok nmX3 in_X4_faultOf_X3 rfl hr_21 (by decide) (by decide +kernel) rfl rfl rfl rfl (Nat.le_of_ble_eq_true rfl) rfl dX4_faultOf_10 (fun f_22 H_23 locs h_24 x_25 hw => ?_)
  have hTB := (gfn_kp (kp_f (KP.refl.upd hWF x_25 ty_15 (Or.inl (by decide)) : KP G [4] false f_9 f_22) (wt_8 hG Tt) (by decide) (by decide) (fun _ => by decide))).trans hTB
  have hKP := hKP.upd hWF x_25 ty_15 (Or.inl (by decide))
  have hRP := hRP.trans (rp_upd hG hWF x_25 hr_21.2 h_24.2 (rp_code hG ty_15 (by decide)) rfl)
  have hWF := wf_upd hWF h_24 x_25 (by rw [ty_15]; exact ⟨0, rfl, ⟨by omega, by omega⟩⟩)
  have h_11 := h_11.ext x_25 (py_ne_kind h_11 hr_21 (by decide))
  have tq_26 := tp_eq h_11
  have hr_16 := hr_16.ext x_25 (py_ne_kind hr_16 hr_21 (by decide))
  refine lv_aload_n G0.1 G0.2.1 dX4_faultOf_13 rfl (lv_at hl 0 rfl) ?_
  refine lv_aload_n G0.1 G0.2.1 dX4_faultOf_14 rfl (lv_at hl 1 rfl) ?_
  refine py_calli hw (va_runV (As := [.ref t]) (rest := []) G0 (c_X4_readClause l E G L f_22 H_23.size h t gb nb 0 hG hWF Th Tt (show tp_l f_22 t = nb ∧ tp_a f_22 t = 0 by omega) (show 0 ≤ 0 ∧ nb ≤ 160 by omega) hTB) (cwV 1 G0.2.2.2.2 g_X4_faultOf_X4_readClause_27 rfl rfl rfl (by decide +kernel) ⟨(Nat.le_of_ble_eq_true rfl), (Nat.le_of_ble_eq_true rfl)⟩) (py_preV hw (C := RX4) (T := TX4) (N := 1) rfl hr_16) rfl rfl hl.1 rfl (lv_room (Nat.le_of_ble_eq_true rfl)) dX4_faultOf_15 ⟨(Nat.le_of_ble_eq_true rfl), (Nat.le_of_ble_eq_true rfl)⟩) (fun r_31 L_27 f_28 H_29 locs hp_30 hw => ?_)
  obtain ⟨b_36, en_32, en_33, en_34, en_35, hWF, hq_37, kp_38⟩ := hp_30
  have hTB := (gfn_kp (kp_f kp_38 (wt_8 hG Tt) (by decide) (by decide) (fun _ => by decide))).trans hTB
  have hRP := hRP.trans hq_37
  have hKP := hKP.trans kp_38 (by decide) (by decide)
  have hr_16 := kp_at kp_38 hWF Th (by decide) (by decide) (by decide) hr_16
  refine lv_istore_n (lv' := [(2, .int r_31), (0, .ref h), (1, .ref t)]) G0.1 G0.2.1 dX4_faultOf_18 rfl hl (by decide) rfl (fun ls hl => ?_)
  refine lv_iconst (v := 0) G0.1 G0.2.1 dX4_faultOf_19 (by decide) ?_
  refine lv_istore_n (lv' := [(3, .int 0), (2, .int r_31), (0, .ref h), (1, .ref t)]) G0.1 G0.2.1 dX4_faultOf_20 rfl hl (by decide) rfl (fun ls hl => ?_)
  have lo_21 : ∀ n_21 : Nat, ∀ (v_39 : Int32) (v_40 : Int32) (L_j21 : List Nat) (f_j21 : py_F) (H_j21 : Heap) (locs : List Loc) (ls : Array Slot), (2147483647 - v_39.toInt).toNat = n_21 → (0 ≤ v_39.toInt ∧ v_39.toInt ≤ 2147483647) → (0 ≤ v_40.toInt ∧ v_40.toInt ≤ 1) → WF E G L_j21 f_j21 → RP E G f f_j21 → KP G [9, 4, 20] false f f_j21 → gfn f_j21 (G.2 t 0) = gb → (tp_l f_j21 t = nb) → (0 ≤ tp_a f_j21 t) → (v_40.toInt = 1 → 2 * v_39.toInt ≤ tp_a f_j21 t ∧ tp_a f_j21 t ≤ nb) → (rs_lw gb nb = rs_af (rs_ca gb nb) 4 gb nb (v_40.toInt, tp_a f_j21 t)) → py_W E (va_A (va_pl L f) s.heap.size) s L_j21 f_j21 H_j21 locs → lv_has ls 4 [(3, .int v_39), (2, .int v_40), (0, .ref h), (1, .ref t)] → W p l e (headSpec w_X4_faultOf ({ frames := 61, cells := 0, slots := 0, locals := 3292 })).room s m ([.ref h, .ref t] : List Value).toArray below meth c H_j21 locs 0 0 (MQ below (py_Qi E L f s.heap.size (fun r L1 f1 => ((-1) ≤ r.toInt ∧ r.toInt ≤ 160) ∧ (tp_l f1 t = nb) ∧ (r.toInt = rs_law gb nb) ∧ WF E G L1 f1 ∧ RP E G f f1 ∧ KP G [9, 4, 20] false f f1)) ([.ref h, .ref t] : List Value).toArray s 0 0 (va_A (va_pl L f) s.heap.size)) (F0 m 21 ls []) := by
    intro n_21
    induction n_21 using Nat.strongRecOn with
    | _ n_21 ih_21 =>
      intro v_39 v_40 L_j21 f_j21 H_j21 locs ls hn_21 bv_39 bv_40 hWF hRP hKP hTB iv0 iv1 iv2 iv3 hw hl
      refine lv_iload_n G0.1 G0.2.1 dX4_faultOf_21 rfl (lv_at hl 0 rfl) ?_
      refine lv_sipush (v := 160) G0.1 G0.2.1 dX4_faultOf_22 (by decide) ?_
      refine lv_icmp_ge (tgt := 53) G0.1 G0.2.1 dX4_faultOf_25 (by decide) (fun c_41 => ?_) (fun c_41 => ?_)
      · skip
        have tc_41 := ti_le c_41
        refine lv_iload_n G0.1 G0.2.1 dX4_faultOf_53 rfl (lv_at hl 1 rfl) ?_
        refine lv_if_eq (tgt := 68) G0.1 G0.2.1 dX4_faultOf_54 (by decide) (fun c_42 => ?_) (fun c_42 => ?_)
        · skip
          have tc_42 := ti_eq c_42
          refine lv_aload_n G0.1 G0.2.1 dX4_faultOf_68 rfl (lv_at hl 3 rfl) ?_
          obtain ⟨v_43, v_44, v_45, hr_48, b_46, b_47⟩ := wg_8 hWF Tt
          have bv_45 := wf_free v_45
          have tq_49 := tp_eq hr_48
          refine py_get (C := RX8) (T := TX8) (N := 4) (k := 2) (v := .int v_44) G0 hw in_X4_faultOf_X8 rfl hr_48 (by decide) (by decide +kernel) rfl dX4_faultOf_69 ?_
          exact py_iret G0 hr rfl hlk hw ⟨⟨by omega, by omega⟩, (by first | omega | (intro q; omega)), (by first | exact rs_law_0 iv3 (by omega) (by omega) | exact rs_law_p iv3 (by omega) (by omega) (by omega) (by omega) | exact rs_law_e hq1 iv3 (by omega) (by omega) (by omega) (by omega) | exact False.elim (by omega)), hWF, hRP, hKP⟩ dX4_faultOf_72
        · skip
          have tc_42 := ti_ne c_42
          refine lv_aload_n G0.1 G0.2.1 dX4_faultOf_57 rfl (lv_at hl 3 rfl) ?_
          obtain ⟨v_50, v_51, v_52, hr_55, b_53, b_54⟩ := wg_8 hWF Tt
          have bv_52 := wf_free v_52
          have tq_56 := tp_eq hr_55
          refine py_calli hw (va_runV (As := []) (rest := []) G0 (c_X8_next l E G L_j21 f_j21 H_j21.size t gb nb (rs_sk gb nb (tp_a f_j21 t)) hG hWF Tt (show tp_l f_j21 t = nb ∧ tp_a f_j21 t = (rs_sk gb nb (tp_a f_j21 t)) by omega) (show 0 ≤ (rs_sk gb nb (tp_a f_j21 t)) ∧ nb ≤ 160 by omega) hTB) (cwV 0 G0.2.2.2.2 g_X4_faultOf_X8_next_35 rfl rfl rfl (by decide +kernel) ⟨(Nat.le_of_ble_eq_true rfl), (Nat.le_of_ble_eq_true rfl)⟩) (py_preV hw (C := RX8) (T := TX8) (N := 4) rfl hr_55) rfl rfl hl.1 rfl (lv_room (Nat.le_of_ble_eq_true rfl)) dX4_faultOf_58 ⟨(Nat.le_of_ble_eq_true rfl), (Nat.le_of_ble_eq_true rfl)⟩) (fun r_61 L_57 f_58 H_59 locs hp_60 hw => ?_)
          obtain ⟨en_62, en_63, en_64, en_65, en_66, hWF, hq_67, kp_68⟩ := hp_60
          have hTB := (gfn_kp (kp_f kp_68 (wt_8 hG Tt) (by decide) (by decide) (fun _ => by decide))).trans hTB
          have hRP := hRP.trans hq_67
          have hKP := hKP.trans kp_68 (by decide) (by decide)
          rw [rs_sk_idem] at en_66
          have br_61 := wf_free r_61
          refine lv_if_ne (tgt := 68) G0.1 G0.2.1 dX4_faultOf_61 (by decide) (fun c_69 => ?_) (fun c_69 => ?_)
          · skip
            have tc_69 := ti_ne c_69
            replace en_62 := en_62 (by omega)
            refine lv_aload_n G0.1 G0.2.1 dX4_faultOf_68 rfl (lv_at hl 3 rfl) ?_
            obtain ⟨v_70, v_71, v_72, hr_75, b_73, b_74⟩ := wg_8 hWF Tt
            have bv_72 := wf_free v_72
            have tq_76 := tp_eq hr_75
            refine py_get (C := RX8) (T := TX8) (N := 4) (k := 2) (v := .int v_71) G0 hw in_X4_faultOf_X8 rfl hr_75 (by decide) (by decide +kernel) rfl dX4_faultOf_69 ?_
            exact py_iret G0 hr rfl hlk hw ⟨⟨by omega, by omega⟩, (by first | omega | (intro q; omega)), (by first | exact rs_law_0 iv3 (by omega) (by omega) | exact rs_law_p iv3 (by omega) (by omega) (by omega) (by omega) | exact rs_law_e hq1 iv3 (by omega) (by omega) (by omega) (by omega) | exact False.elim (by omega)), hWF, hRP, hKP⟩ dX4_faultOf_72
          · skip
            have tc_69 := ti_eq c_69
            clear en_62
            refine lv_iconst (v := (-1)) G0.1 G0.2.1 dX4_faultOf_64 (by decide) ?_
            refine lv_goto (tgt := 72) G0.1 G0.2.1 dX4_faultOf_65 (by decide) ?_
            obtain ⟨v_77, v_78, v_79, hr_82, b_80, b_81⟩ := wg_8 hWF Tt
            have bv_79 := wf_free v_79
            have tq_83 := tp_eq hr_82
            exact py_iret G0 hr rfl hlk hw ⟨⟨by omega, by omega⟩, (by first | omega | (intro q; omega)), (by first | exact rs_law_0 iv3 (by omega) (by omega) | exact rs_law_p iv3 (by omega) (by omega) (by omega) (by omega) | exact rs_law_e hq1 iv3 (by omega) (by omega) (by omega) (by omega) | exact False.elim (by omega)), hWF, hRP, hKP⟩ dX4_faultOf_72
      · skip
        have tc_41 := ti_nle c_41
        refine lv_iload_n G0.1 G0.2.1 dX4_faultOf_28 rfl (lv_at hl 1 rfl) ?_
        refine lv_if_eq (tgt := 53) G0.1 G0.2.1 dX4_faultOf_29 (by decide) (fun c_84 => ?_) (fun c_84 => ?_)
        · skip
          have tc_84 := ti_eq c_84
          refine lv_iload_n G0.1 G0.2.1 dX4_faultOf_53 rfl (lv_at hl 1 rfl) ?_
          refine lv_if_eq (tgt := 68) G0.1 G0.2.1 dX4_faultOf_54 (by decide) (fun c_85 => ?_) (fun c_85 => ?_)
          · skip
            have tc_85 := ti_eq c_85
            refine lv_aload_n G0.1 G0.2.1 dX4_faultOf_68 rfl (lv_at hl 3 rfl) ?_
            obtain ⟨v_86, v_87, v_88, hr_91, b_89, b_90⟩ := wg_8 hWF Tt
            have bv_88 := wf_free v_88
            have tq_92 := tp_eq hr_91
            refine py_get (C := RX8) (T := TX8) (N := 4) (k := 2) (v := .int v_87) G0 hw in_X4_faultOf_X8 rfl hr_91 (by decide) (by decide +kernel) rfl dX4_faultOf_69 ?_
            exact py_iret G0 hr rfl hlk hw ⟨⟨by omega, by omega⟩, (by first | omega | (intro q; omega)), (by first | exact rs_law_0 iv3 (by omega) (by omega) | exact rs_law_p iv3 (by omega) (by omega) (by omega) (by omega) | exact rs_law_e hq1 iv3 (by omega) (by omega) (by omega) (by omega) | exact False.elim (by omega)), hWF, hRP, hKP⟩ dX4_faultOf_72
          · skip
            have tc_85 := ti_ne c_85
            refine lv_aload_n G0.1 G0.2.1 dX4_faultOf_57 rfl (lv_at hl 3 rfl) ?_
            obtain ⟨v_93, v_94, v_95, hr_98, b_96, b_97⟩ := wg_8 hWF Tt
            have bv_95 := wf_free v_95
            have tq_99 := tp_eq hr_98
            refine py_calli hw (va_runV (As := []) (rest := []) G0 (c_X8_next l E G L_j21 f_j21 H_j21.size t gb nb (rs_sk gb nb (tp_a f_j21 t)) hG hWF Tt (show tp_l f_j21 t = nb ∧ tp_a f_j21 t = (rs_sk gb nb (tp_a f_j21 t)) by omega) (show 0 ≤ (rs_sk gb nb (tp_a f_j21 t)) ∧ nb ≤ 160 by omega) hTB) (cwV 0 G0.2.2.2.2 g_X4_faultOf_X8_next_35 rfl rfl rfl (by decide +kernel) ⟨(Nat.le_of_ble_eq_true rfl), (Nat.le_of_ble_eq_true rfl)⟩) (py_preV hw (C := RX8) (T := TX8) (N := 4) rfl hr_98) rfl rfl hl.1 rfl (lv_room (Nat.le_of_ble_eq_true rfl)) dX4_faultOf_58 ⟨(Nat.le_of_ble_eq_true rfl), (Nat.le_of_ble_eq_true rfl)⟩) (fun r_104 L_100 f_101 H_102 locs hp_103 hw => ?_)
            obtain ⟨en_105, en_106, en_107, en_108, en_109, hWF, hq_110, kp_111⟩ := hp_103
            have hTB := (gfn_kp (kp_f kp_111 (wt_8 hG Tt) (by decide) (by decide) (fun _ => by decide))).trans hTB
            have hRP := hRP.trans hq_110
            have hKP := hKP.trans kp_111 (by decide) (by decide)
            rw [rs_sk_idem] at en_109
            have br_104 := wf_free r_104
            refine lv_if_ne (tgt := 68) G0.1 G0.2.1 dX4_faultOf_61 (by decide) (fun c_112 => ?_) (fun c_112 => ?_)
            · skip
              have tc_112 := ti_ne c_112
              replace en_105 := en_105 (by omega)
              refine lv_aload_n G0.1 G0.2.1 dX4_faultOf_68 rfl (lv_at hl 3 rfl) ?_
              obtain ⟨v_113, v_114, v_115, hr_118, b_116, b_117⟩ := wg_8 hWF Tt
              have bv_115 := wf_free v_115
              have tq_119 := tp_eq hr_118
              refine py_get (C := RX8) (T := TX8) (N := 4) (k := 2) (v := .int v_114) G0 hw in_X4_faultOf_X8 rfl hr_118 (by decide) (by decide +kernel) rfl dX4_faultOf_69 ?_
              exact py_iret G0 hr rfl hlk hw ⟨⟨by omega, by omega⟩, (by first | omega | (intro q; omega)), (by first | exact rs_law_0 iv3 (by omega) (by omega) | exact rs_law_p iv3 (by omega) (by omega) (by omega) (by omega) | exact rs_law_e hq1 iv3 (by omega) (by omega) (by omega) (by omega) | exact False.elim (by omega)), hWF, hRP, hKP⟩ dX4_faultOf_72
            · skip
              have tc_112 := ti_eq c_112
              clear en_105
              refine lv_iconst (v := (-1)) G0.1 G0.2.1 dX4_faultOf_64 (by decide) ?_
              refine lv_goto (tgt := 72) G0.1 G0.2.1 dX4_faultOf_65 (by decide) ?_
              obtain ⟨v_120, v_121, v_122, hr_125, b_123, b_124⟩ := wg_8 hWF Tt
              have bv_122 := wf_free v_122
              have tq_126 := tp_eq hr_125
              exact py_iret G0 hr rfl hlk hw ⟨⟨by omega, by omega⟩, (by first | omega | (intro q; omega)), (by first | exact rs_law_0 iv3 (by omega) (by omega) | exact rs_law_p iv3 (by omega) (by omega) (by omega) (by omega) | exact rs_law_e hq1 iv3 (by omega) (by omega) (by omega) (by omega) | exact False.elim (by omega)), hWF, hRP, hKP⟩ dX4_faultOf_72
        · skip
          have tc_84 := ti_ne c_84
          refine lv_aload_n G0.1 G0.2.1 dX4_faultOf_32 rfl (lv_at hl 3 rfl) ?_
          refine lv_bipush (v := 59) G0.1 G0.2.1 dX4_faultOf_33 (by decide) ?_
          obtain ⟨v_127, v_128, v_129, hr_132, b_130, b_131⟩ := wg_8 hWF Tt
          have bv_129 := wf_free v_129
          have tq_133 := tp_eq hr_132
          refine py_calli hw (va_runV (As := [.int 59]) (rest := []) G0 (c_X8_take l E G L_j21 f_j21 H_j21.size t 59 gb nb (tp_a f_j21 t) hG hWF Tt ⟨by omega, by omega⟩ (show tp_l f_j21 t = nb ∧ tp_a f_j21 t = (tp_a f_j21 t) by omega) (show 0 ≤ (tp_a f_j21 t) ∧ nb ≤ 160 by omega) hTB) (cwV 1 G0.2.2.2.2 g_X4_faultOf_X8_take_31 rfl rfl rfl (by decide +kernel) ⟨(Nat.le_of_ble_eq_true rfl), (Nat.le_of_ble_eq_true rfl)⟩) (py_preV hw (C := RX8) (T := TX8) (N := 4) rfl hr_132) rfl rfl hl.1 rfl (lv_room (Nat.le_of_ble_eq_true rfl)) dX4_faultOf_35 ⟨(Nat.le_of_ble_eq_true rfl), (Nat.le_of_ble_eq_true rfl)⟩) (fun r_138 L_134 f_135 H_136 locs hp_137 hw => ?_)
          obtain ⟨b_143, en_139, en_140, en_141, en_142, hWF, hq_144, kp_145⟩ := hp_137
          have hTB := (gfn_kp (kp_f kp_145 (wt_8 hG Tt) (by decide) (by decide) (fun _ => by decide))).trans hTB
          have hRP := hRP.trans hq_144
          have hKP := hKP.trans kp_145 (by decide) (by decide)
          refine lv_if_eq (tgt := 53) G0.1 G0.2.1 dX4_faultOf_38 (by decide) (fun c_146 => ?_) (fun c_146 => ?_)
          · skip
            have tc_146 := ti_eq c_146
            clear en_141
            replace en_142 := en_142 (by omega)
            refine lv_iload_n G0.1 G0.2.1 dX4_faultOf_53 rfl (lv_at hl 1 rfl) ?_
            refine lv_if_eq (tgt := 68) G0.1 G0.2.1 dX4_faultOf_54 (by decide) (fun c_147 => ?_) (fun c_147 => ?_)
            · skip
              have tc_147 := ti_eq c_147
              refine lv_aload_n G0.1 G0.2.1 dX4_faultOf_68 rfl (lv_at hl 3 rfl) ?_
              obtain ⟨v_148, v_149, v_150, hr_153, b_151, b_152⟩ := wg_8 hWF Tt
              have bv_150 := wf_free v_150
              have tq_154 := tp_eq hr_153
              refine py_get (C := RX8) (T := TX8) (N := 4) (k := 2) (v := .int v_149) G0 hw in_X4_faultOf_X8 rfl hr_153 (by decide) (by decide +kernel) rfl dX4_faultOf_69 ?_
              exact py_iret G0 hr rfl hlk hw ⟨⟨by omega, by omega⟩, (by first | omega | (intro q; omega)), (by first | exact rs_law_0 iv3 (by omega) (by omega) | exact rs_law_p iv3 (by omega) (by omega) (by omega) (by omega) | exact rs_law_e hq1 iv3 (by omega) (by omega) (by omega) (by omega) | exact False.elim (by omega)), hWF, hRP, hKP⟩ dX4_faultOf_72
            · skip
              have tc_147 := ti_ne c_147
              refine lv_aload_n G0.1 G0.2.1 dX4_faultOf_57 rfl (lv_at hl 3 rfl) ?_
              obtain ⟨v_155, v_156, v_157, hr_160, b_158, b_159⟩ := wg_8 hWF Tt
              have bv_157 := wf_free v_157
              have tq_161 := tp_eq hr_160
              refine py_calli hw (va_runV (As := []) (rest := []) G0 (c_X8_next l E G L_134 f_135 H_136.size t gb nb (rs_sk gb nb (tp_a f_j21 t)) hG hWF Tt (show tp_l f_135 t = nb ∧ tp_a f_135 t = (rs_sk gb nb (tp_a f_j21 t)) by omega) (show 0 ≤ (rs_sk gb nb (tp_a f_j21 t)) ∧ nb ≤ 160 by omega) hTB) (cwV 0 G0.2.2.2.2 g_X4_faultOf_X8_next_35 rfl rfl rfl (by decide +kernel) ⟨(Nat.le_of_ble_eq_true rfl), (Nat.le_of_ble_eq_true rfl)⟩) (py_preV hw (C := RX8) (T := TX8) (N := 4) rfl hr_160) rfl rfl hl.1 rfl (lv_room (Nat.le_of_ble_eq_true rfl)) dX4_faultOf_58 ⟨(Nat.le_of_ble_eq_true rfl), (Nat.le_of_ble_eq_true rfl)⟩) (fun r_166 L_162 f_163 H_164 locs hp_165 hw => ?_)
              obtain ⟨en_167, en_168, en_169, en_170, en_171, hWF, hq_172, kp_173⟩ := hp_165
              have hTB := (gfn_kp (kp_f kp_173 (wt_8 hG Tt) (by decide) (by decide) (fun _ => by decide))).trans hTB
              have hRP := hRP.trans hq_172
              have hKP := hKP.trans kp_173 (by decide) (by decide)
              rw [rs_sk_idem] at en_171
              have br_166 := wf_free r_166
              refine lv_if_ne (tgt := 68) G0.1 G0.2.1 dX4_faultOf_61 (by decide) (fun c_174 => ?_) (fun c_174 => ?_)
              · skip
                have tc_174 := ti_ne c_174
                replace en_167 := en_167 (by omega)
                refine lv_aload_n G0.1 G0.2.1 dX4_faultOf_68 rfl (lv_at hl 3 rfl) ?_
                obtain ⟨v_175, v_176, v_177, hr_180, b_178, b_179⟩ := wg_8 hWF Tt
                have bv_177 := wf_free v_177
                have tq_181 := tp_eq hr_180
                refine py_get (C := RX8) (T := TX8) (N := 4) (k := 2) (v := .int v_176) G0 hw in_X4_faultOf_X8 rfl hr_180 (by decide) (by decide +kernel) rfl dX4_faultOf_69 ?_
                exact py_iret G0 hr rfl hlk hw ⟨⟨by omega, by omega⟩, (by first | omega | (intro q; omega)), (by first | exact rs_law_0 iv3 (by omega) (by omega) | exact rs_law_p iv3 (by omega) (by omega) (by omega) (by omega) | exact rs_law_e hq1 iv3 (by omega) (by omega) (by omega) (by omega) | exact False.elim (by omega)), hWF, hRP, hKP⟩ dX4_faultOf_72
              · skip
                have tc_174 := ti_eq c_174
                clear en_167
                refine lv_iconst (v := (-1)) G0.1 G0.2.1 dX4_faultOf_64 (by decide) ?_
                refine lv_goto (tgt := 72) G0.1 G0.2.1 dX4_faultOf_65 (by decide) ?_
                obtain ⟨v_182, v_183, v_184, hr_187, b_185, b_186⟩ := wg_8 hWF Tt
                have bv_184 := wf_free v_184
                have tq_188 := tp_eq hr_187
                exact py_iret G0 hr rfl hlk hw ⟨⟨by omega, by omega⟩, (by first | omega | (intro q; omega)), (by first | exact rs_law_0 iv3 (by omega) (by omega) | exact rs_law_p iv3 (by omega) (by omega) (by omega) (by omega) | exact rs_law_e hq1 iv3 (by omega) (by omega) (by omega) (by omega) | exact False.elim (by omega)), hWF, hRP, hKP⟩ dX4_faultOf_72
          · skip
            have tc_146 := ti_ne c_146
            replace en_141 := en_141 (by omega)
            clear en_142
            refine lv_aload_n G0.1 G0.2.1 dX4_faultOf_41 rfl (lv_at hl 2 rfl) ?_
            refine lv_aload_n G0.1 G0.2.1 dX4_faultOf_42 rfl (lv_at hl 3 rfl) ?_
            obtain ⟨r_189, hr_191, ty_190⟩ := wg_4 hWF Th
            refine py_calli hw (va_runV (As := [.ref t]) (rest := []) G0 (c_X4_readClause l E G L_134 f_135 H_136.size h t gb nb (rs_sk gb nb (tp_a f_j21 t) + 1) hG hWF Th Tt (show tp_l f_135 t = nb ∧ tp_a f_135 t = (rs_sk gb nb (tp_a f_j21 t) + 1) by omega) (show 0 ≤ (rs_sk gb nb (tp_a f_j21 t) + 1) ∧ nb ≤ 160 by omega) hTB) (cwV 1 G0.2.2.2.2 g_X4_faultOf_X4_readClause_27 rfl rfl rfl (by decide +kernel) ⟨(Nat.le_of_ble_eq_true rfl), (Nat.le_of_ble_eq_true rfl)⟩) (py_preV hw (C := RX4) (T := TX4) (N := 1) rfl hr_191) rfl rfl hl.1 rfl (lv_room (Nat.le_of_ble_eq_true rfl)) dX4_faultOf_43 ⟨(Nat.le_of_ble_eq_true rfl), (Nat.le_of_ble_eq_true rfl)⟩) (fun r_196 L_192 f_193 H_194 locs hp_195 hw => ?_)
            obtain ⟨b_201, en_197, en_198, en_199, en_200, hWF, hq_202, kp_203⟩ := hp_195
            have hTB := (gfn_kp (kp_f kp_203 (wt_8 hG Tt) (by decide) (by decide) (fun _ => by decide))).trans hTB
            have hRP := hRP.trans hq_202
            have hKP := hKP.trans kp_203 (by decide) (by decide)
            have hr_191 := kp_at kp_203 hWF Th (by decide) (by decide) (by decide) hr_191
            refine lv_istore_n (lv' := [(2, .int r_196), (3, .int v_39), (0, .ref h), (1, .ref t)]) G0.1 G0.2.1 dX4_faultOf_46 rfl hl (by decide) rfl (fun ls hl => ?_)
            obtain ⟨x_204, ex_204⟩ : ∃ y : Int32, y = v_39 + 1 := ⟨_, rfl⟩
            first | have tx_204 := ti_add ex_204 (by omega) (by omega) | skip
            refine lv_iinc (v := x_204) (lv' := [(3, .int x_204), (2, .int r_196), (0, .ref h), (1, .ref t)]) G0.1 G0.2.1 dX4_faultOf_47 hl (k := 1) rfl (show _ + (1 : Int32) = _ from ex_204.symm) (by decide) rfl (fun ls hl => ?_)
            refine lv_goto (tgt := 21) G0.1 G0.2.1 dX4_faultOf_50 (by decide) ?_
            exact ih_21 ((2147483647 - x_204.toInt).toNat) (by omega) x_204 r_196 L_192 f_193 _ _ ls rfl ⟨by omega, by omega⟩ ⟨by omega, by omega⟩ hWF hRP hKP hTB (by first | omega | (intros; omega)) (by first | omega | (intros; omega)) (by first | omega | (intros; omega)) (rs_lp_pr (rs_af_onp iv3 (by omega) (by have hz := rs_co_eq (rs_v gb nb (rs_sk gb nb (tp_a f_j21 t))); omega) (by omega) rfl) en_200.1 en_200.2 (by omega)) hw (lv_sub hl [0, 1, 2, 3] rfl)
  exact lo_21 _ 0 r_31 L_27 f_28 _ _ ls rfl ⟨by omega, by omega⟩ ⟨by omega, by omega⟩ hWF hRP hKP hTB (by first | omega | (intros; omega)) (by first | omega | (intros; omega)) (by first | omega | (intros; omega)) (rs_lp_pr (rfl : rs_lw gb nb = rs_lp (rs_ca gb nb) 4 gb nb 0) en_35.1 en_35.2 (by omega)) hw (lv_sub hl [0, 1, 2, 3] rfl)
