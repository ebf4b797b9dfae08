theorem dX12_takeValley_0 : decode cX12_takeValley 0 = .ok (.aload_n 0, 1) := by decide +kernel
theorem dX12_takeValley_1 : decode cX12_takeValley 1 = .ok (.aload_n 0, 1) := by decide +kernel
theorem dX12_takeValley_2 : decode cX12_takeValley 2 = .ok (.getfield 264, 3) := by decide +kernel
theorem dX12_takeValley_5 : decode cX12_takeValley 5 = .ok (.putfield 302, 3) := by decide +kernel
theorem dX12_takeValley_8 : decode cX12_takeValley 8 = .ok (.aload_n 0, 1) := by decide +kernel
theorem dX12_takeValley_9 : decode cX12_takeValley 9 = .ok (.aload_n 0, 1) := by decide +kernel
theorem dX12_takeValley_10 : decode cX12_takeValley 10 = .ok (.getfield 267, 3) := by decide +kernel
theorem dX12_takeValley_13 : decode cX12_takeValley 13 = .ok (.putfield 290, 3) := by decide +kernel
theorem dX12_takeValley_16 : decode cX12_takeValley 16 = .ok (.iconst 0, 1) := by decide +kernel
theorem dX12_takeValley_17 : decode cX12_takeValley 17 = .ok (.istore_n 1, 1) := by decide +kernel
theorem dX12_takeValley_18 : decode cX12_takeValley 18 = .ok (.iload_n 1, 1) := by decide +kernel
theorem dX12_takeValley_19 : decode cX12_takeValley 19 = .ok (.bipush 32, 2) := by decide +kernel
theorem dX12_takeValley_21 : decode cX12_takeValley 21 = .ok (.if_icmp .ge 21, 3) := by decide +kernel
theorem dX12_takeValley_24 : decode cX12_takeValley 24 = .ok (.aload_n 0, 1) := by decide +kernel
theorem dX12_takeValley_25 : decode cX12_takeValley 25 = .ok (.getfield 46, 3) := by decide +kernel
theorem dX12_takeValley_28 : decode cX12_takeValley 28 = .ok (.iload_n 1, 1) := by decide +kernel
theorem dX12_takeValley_29 : decode cX12_takeValley 29 = .ok (.aload_n 0, 1) := by decide +kernel
theorem dX12_takeValley_30 : decode cX12_takeValley 30 = .ok (.getfield 40, 3) := by decide +kernel
theorem dX12_takeValley_33 : decode cX12_takeValley 33 = .ok (.iload_n 1, 1) := by decide +kernel
theorem dX12_takeValley_34 : decode cX12_takeValley 34 = .ok (.iaload, 1) := by decide +kernel
theorem dX12_takeValley_35 : decode cX12_takeValley 35 = .ok (.iastore, 1) := by decide +kernel
theorem dX12_takeValley_36 : decode cX12_takeValley 36 = .ok (.iinc 1 1, 3) := by decide +kernel
theorem dX12_takeValley_39 : decode cX12_takeValley 39 = .ok (.goto (-21), 3) := by decide +kernel
theorem dX12_takeValley_42 : decode cX12_takeValley 42 = .ok (.iconst 0, 1) := by decide +kernel
theorem dX12_takeValley_43 : decode cX12_takeValley 43 = .ok (.istore_n 1, 1) := by decide +kernel
theorem dX12_takeValley_44 : decode cX12_takeValley 44 = .ok (.iload_n 1, 1) := by decide +kernel
theorem dX12_takeValley_45 : decode cX12_takeValley 45 = .ok (.bipush 90, 2) := by decide +kernel
theorem dX12_takeValley_47 : decode cX12_takeValley 47 = .ok (.if_icmp .ge 16, 3) := by decide +kernel
theorem dX12_takeValley_50 : decode cX12_takeValley 50 = .ok (.aload_n 0, 1) := by decide +kernel
theorem dX12_takeValley_51 : decode cX12_takeValley 51 = .ok (.getfield 55, 3) := by decide +kernel
theorem dX12_takeValley_54 : decode cX12_takeValley 54 = .ok (.iload_n 1, 1) := by decide +kernel
theorem dX12_takeValley_55 : decode cX12_takeValley 55 = .ok (.iconst 0, 1) := by decide +kernel
theorem dX12_takeValley_56 : decode cX12_takeValley 56 = .ok (.iastore, 1) := by decide +kernel
theorem dX12_takeValley_57 : decode cX12_takeValley 57 = .ok (.iinc 1 1, 3) := by decide +kernel
theorem dX12_takeValley_60 : decode cX12_takeValley 60 = .ok (.goto (-16), 3) := by decide +kernel
theorem dX12_takeValley_63 : decode cX12_takeValley 63 = .ok (.iconst 0, 1) := by decide +kernel
theorem dX12_takeValley_64 : decode cX12_takeValley 64 = .ok (.istore_n 1, 1) := by decide +kernel
theorem dX12_takeValley_65 : decode cX12_takeValley 65 = .ok (.iload_n 1, 1) := by decide +kernel
theorem dX12_takeValley_66 : decode cX12_takeValley 66 = .ok (.aload_n 0, 1) := by decide +kernel
theorem dX12_takeValley_67 : decode cX12_takeValley 67 = .ok (.getfield 290, 3) := by decide +kernel
theorem dX12_takeValley_70 : decode cX12_takeValley 70 = .ok (.if_icmp .ge 16, 3) := by decide +kernel
theorem dX12_takeValley_73 : decode cX12_takeValley 73 = .ok (.aload_n 0, 1) := by decide +kernel
theorem dX12_takeValley_74 : decode cX12_takeValley 74 = .ok (.iload_n 1, 1) := by decide +kernel
theorem dX12_takeValley_75 : decode cX12_takeValley 75 = .ok (.iconst 1, 1) := by decide +kernel
theorem dX12_takeValley_76 : decode cX12_takeValley 76 = .ok (.iconst (-1), 1) := by decide +kernel
theorem dX12_takeValley_77 : decode cX12_takeValley 77 = .ok (.invokevirtual 305, 3) := by decide +kernel
theorem dX12_takeValley_80 : decode cX12_takeValley 80 = .ok (.iinc 1 1, 3) := by decide +kernel
theorem dX12_takeValley_83 : decode cX12_takeValley 83 = .ok (.goto (-18), 3) := by decide +kernel
theorem dX12_takeValley_86 : decode cX12_takeValley 86 = .ok (.iconst 0, 1) := by decide +kernel
theorem dX12_takeValley_87 : decode cX12_takeValley 87 = .ok (.istore_n 1, 1) := by decide +kernel
theorem dX12_takeValley_88 : decode cX12_takeValley 88 = .ok (.iload_n 1, 1) := by decide +kernel
theorem dX12_takeValley_89 : decode cX12_takeValley 89 = .ok (.aload_n 0, 1) := by decide +kernel
theorem dX12_takeValley_90 : decode cX12_takeValley 90 = .ok (.getfield 290, 3) := by decide +kernel
theorem dX12_takeValley_93 : decode cX12_takeValley 93 = .ok (.if_icmp .ge 85, 3) := by decide +kernel
theorem dX12_takeValley_96 : decode cX12_takeValley 96 = .ok (.aload_n 0, 1) := by decide +kernel
theorem dX12_takeValley_97 : decode cX12_takeValley 97 = .ok (.getfield 43, 3) := by decide +kernel
theorem dX12_takeValley_100 : decode cX12_takeValley 100 = .ok (.iconst 4, 1) := by decide +kernel
theorem dX12_takeValley_101 : decode cX12_takeValley 101 = .ok (.iload_n 1, 1) := by decide +kernel
theorem dX12_takeValley_102 : decode cX12_takeValley 102 = .ok (.imul, 1) := by decide +kernel
theorem dX12_takeValley_103 : decode cX12_takeValley 103 = .ok (.iconst 1, 1) := by decide +kernel
theorem dX12_takeValley_104 : decode cX12_takeValley 104 = .ok (.iadd, 1) := by decide +kernel
theorem dX12_takeValley_105 : decode cX12_takeValley 105 = .ok (.iaload, 1) := by decide +kernel
theorem dX12_takeValley_106 : decode cX12_takeValley 106 = .ok (.istore_n 2, 1) := by decide +kernel
theorem dX12_takeValley_107 : decode cX12_takeValley 107 = .ok (.aload_n 0, 1) := by decide +kernel
theorem dX12_takeValley_108 : decode cX12_takeValley 108 = .ok (.iload_n 1, 1) := by decide +kernel
theorem dX12_takeValley_109 : decode cX12_takeValley 109 = .ok (.iconst 2, 1) := by decide +kernel
theorem dX12_takeValley_110 : decode cX12_takeValley 110 = .ok (.aload_n 0, 1) := by decide +kernel
theorem dX12_takeValley_111 : decode cX12_takeValley 111 = .ok (.iload_n 2, 1) := by decide +kernel
theorem dX12_takeValley_112 : decode cX12_takeValley 112 = .ok (.iconst 0, 1) := by decide +kernel
theorem dX12_takeValley_113 : decode cX12_takeValley 113 = .ok (.invokevirtual 299, 3) := by decide +kernel
theorem dX12_takeValley_116 : decode cX12_takeValley 116 = .ok (.invokevirtual 305, 3) := by decide +kernel
theorem dX12_takeValley_119 : decode cX12_takeValley 119 = .ok (.aload_n 0, 1) := by decide +kernel
theorem dX12_takeValley_120 : decode cX12_takeValley 120 = .ok (.iload_n 1, 1) := by decide +kernel
theorem dX12_takeValley_121 : decode cX12_takeValley 121 = .ok (.iconst 1, 1) := by decide +kernel
theorem dX12_takeValley_122 : decode cX12_takeValley 122 = .ok (.iload_n 2, 1) := by decide +kernel
theorem dX12_takeValley_123 : decode cX12_takeValley 123 = .ok (.invokevirtual 305, 3) := by decide +kernel
theorem dX12_takeValley_126 : decode cX12_takeValley 126 = .ok (.aload_n 0, 1) := by decide +kernel
theorem dX12_takeValley_127 : decode cX12_takeValley 127 = .ok (.iload_n 1, 1) := by decide +kernel
theorem dX12_takeValley_128 : decode cX12_takeValley 128 = .ok (.iconst 0, 1) := by decide +kernel
theorem dX12_takeValley_129 : decode cX12_takeValley 129 = .ok (.aload_n 0, 1) := by decide +kernel
theorem dX12_takeValley_130 : decode cX12_takeValley 130 = .ok (.getfield 43, 3) := by decide +kernel
theorem dX12_takeValley_133 : decode cX12_takeValley 133 = .ok (.iconst 4, 1) := by decide +kernel
theorem dX12_takeValley_134 : decode cX12_takeValley 134 = .ok (.iload_n 1, 1) := by decide +kernel
theorem dX12_takeValley_135 : decode cX12_takeValley 135 = .ok (.imul, 1) := by decide +kernel
theorem dX12_takeValley_136 : decode cX12_takeValley 136 = .ok (.iaload, 1) := by decide +kernel
theorem dX12_takeValley_137 : decode cX12_takeValley 137 = .ok (.invokevirtual 305, 3) := by decide +kernel
theorem dX12_takeValley_140 : decode cX12_takeValley 140 = .ok (.aload_n 0, 1) := by decide +kernel
theorem dX12_takeValley_141 : decode cX12_takeValley 141 = .ok (.getfield 49, 3) := by decide +kernel
theorem dX12_takeValley_144 : decode cX12_takeValley 144 = .ok (.iload_n 1, 1) := by decide +kernel
theorem dX12_takeValley_145 : decode cX12_takeValley 145 = .ok (.aload_n 0, 1) := by decide +kernel
theorem dX12_takeValley_146 : decode cX12_takeValley 146 = .ok (.getfield 43, 3) := by decide +kernel
theorem dX12_takeValley_149 : decode cX12_takeValley 149 = .ok (.iconst 4, 1) := by decide +kernel
theorem dX12_takeValley_150 : decode cX12_takeValley 150 = .ok (.iload_n 1, 1) := by decide +kernel
theorem dX12_takeValley_151 : decode cX12_takeValley 151 = .ok (.imul, 1) := by decide +kernel
theorem dX12_takeValley_152 : decode cX12_takeValley 152 = .ok (.iconst 2, 1) := by decide +kernel
theorem dX12_takeValley_153 : decode cX12_takeValley 153 = .ok (.iadd, 1) := by decide +kernel
theorem dX12_takeValley_154 : decode cX12_takeValley 154 = .ok (.iaload, 1) := by decide +kernel
theorem dX12_takeValley_155 : decode cX12_takeValley 155 = .ok (.iastore, 1) := by decide +kernel
theorem dX12_takeValley_156 : decode cX12_takeValley 156 = .ok (.aload_n 0, 1) := by decide +kernel
theorem dX12_takeValley_157 : decode cX12_takeValley 157 = .ok (.getfield 52, 3) := by decide +kernel
theorem dX12_takeValley_160 : decode cX12_takeValley 160 = .ok (.iload_n 1, 1) := by decide +kernel
theorem dX12_takeValley_161 : decode cX12_takeValley 161 = .ok (.aload_n 0, 1) := by decide +kernel
theorem dX12_takeValley_162 : decode cX12_takeValley 162 = .ok (.getfield 43, 3) := by decide +kernel
theorem dX12_takeValley_165 : decode cX12_takeValley 165 = .ok (.iconst 4, 1) := by decide +kernel
theorem dX12_takeValley_166 : decode cX12_takeValley 166 = .ok (.iload_n 1, 1) := by decide +kernel
theorem dX12_takeValley_167 : decode cX12_takeValley 167 = .ok (.imul, 1) := by decide +kernel
theorem dX12_takeValley_168 : decode cX12_takeValley 168 = .ok (.iconst 3, 1) := by decide +kernel
theorem dX12_takeValley_169 : decode cX12_takeValley 169 = .ok (.iadd, 1) := by decide +kernel
theorem dX12_takeValley_170 : decode cX12_takeValley 170 = .ok (.iaload, 1) := by decide +kernel
theorem dX12_takeValley_171 : decode cX12_takeValley 171 = .ok (.iastore, 1) := by decide +kernel
theorem dX12_takeValley_172 : decode cX12_takeValley 172 = .ok (.iinc 1 1, 3) := by decide +kernel
theorem dX12_takeValley_175 : decode cX12_takeValley 175 = .ok (.goto (-87), 3) := by decide +kernel
theorem dX12_takeValley_178 : decode cX12_takeValley 178 = .ok (.aload_n 0, 1) := by decide +kernel
theorem dX12_takeValley_179 : decode cX12_takeValley 179 = .ok (.iconst 0, 1) := by decide +kernel
theorem dX12_takeValley_180 : decode cX12_takeValley 180 = .ok (.putfield 309, 3) := by decide +kernel
theorem dX12_takeValley_183 : decode cX12_takeValley 183 = .ok (.aload_n 0, 1) := by decide +kernel
theorem dX12_takeValley_184 : decode cX12_takeValley 184 = .ok (.iconst 0, 1) := by decide +kernel
theorem dX12_takeValley_185 : decode cX12_takeValley 185 = .ok (.putfield 312, 3) := by decide +kernel
theorem dX12_takeValley_188 : decode cX12_takeValley 188 = .ok (.aload_n 0, 1) := by decide +kernel
theorem dX12_takeValley_189 : decode cX12_takeValley 189 = .ok (.iconst 0, 1) := by decide +kernel
theorem dX12_takeValley_190 : decode cX12_takeValley 190 = .ok (.putfield 315, 3) := by decide +kernel
theorem dX12_takeValley_193 : decode cX12_takeValley 193 = .ok (.aload_n 0, 1) := by decide +kernel
theorem dX12_takeValley_194 : decode cX12_takeValley 194 = .ok (.getfield 290, 3) := by decide +kernel
theorem dX12_takeValley_197 : decode cX12_takeValley 197 = .ok (.ireturn, 1) := by decide +kernel
def w_X12_takeValley : List Cond := .code yX12_takeValley cX12_takeValley 3 (some .int) :: ([Cond.fieldLink RX12 264 "HeadYearModel" "readLevels" "I", Cond.fieldLink RX12 302 "HeadYearModel" "levels" "I", Cond.fieldLink RX12 267 "HeadYearModel" "readFamilies" "I", Cond.fieldLink RX12 290 "HeadYearModel" "families" "I", Cond.fieldLink RX12 309 "HeadYearModel" "years" "I", Cond.fieldLink RX12 312 "HeadYearModel" "buys" "I", Cond.fieldLink RX12 315 "HeadYearModel" "hasImage" "Z", Cond.fieldLink RX12 43 "HeadYearModel" "readFamily" "[I", Cond.methodLink RX12 299 yX12_emptyHut, Cond.instanceMethod yX12_emptyHut, Cond.selects RX12 yX12_emptyHut yX12_emptyHut, Cond.initialized RX12, Cond.methodLink RX12 305 yX12_tell, Cond.instanceMethod yX12_tell, Cond.selects RX12 yX12_tell yX12_tell, Cond.fieldLink RX12 49 "HeadYearModel" "birth" "[I", Cond.fieldLink RX12 52 "HeadYearModel" "twin" "[I", Cond.fieldLink RX12 55 "HeadYearModel" "now" "[I", Cond.fieldLink RX12 46 "HeadYearModel" "levelRow" "[I", Cond.fieldLink RX12 40 "HeadYearModel" "readLevel" "[I"] ++ (u_ws RX12 TX12 54 ++ (w_X12_emptyHut ++ (w_X12_tell ++ ([])))))
theorem in_X12_takeValley_X12 : ∀ w ∈ u_ws RX12 TX12 54, w ∈ w_X12_takeValley := fun _ h => List.mem_cons_of_mem _ (List.mem_append_right _ (List.mem_append_left _ h))
theorem gg_X12_takeValley_X12_emptyHut : GoodIn w_X12_takeValley w_X12_emptyHut := goodIn_sub (fun _ h => List.mem_cons_of_mem _ (List.mem_append_right _ (List.mem_append_right _ (List.mem_append_left _ h)))) (by decide +kernel)
theorem gg_X12_takeValley_X12_tell : GoodIn w_X12_takeValley w_X12_tell := goodIn_sub (fun _ h => List.mem_cons_of_mem _ (List.mem_append_right _ (List.mem_append_right _ (List.mem_append_right _ (List.mem_append_left _ h))))) (by decide +kernel)
theorem g_X12_takeValley_X12_emptyHut_299 : GoodIn w_X12_takeValley (wsV RX12 299 RX12 yX12_emptyHut w_X12_emptyHut) := goodIn_app (goodIn_of _ (by decide +kernel)) gg_X12_takeValley_X12_emptyHut
theorem g_X12_takeValley_X12_tell_305 : GoodIn w_X12_takeValley (wsV RX12 305 RX12 yX12_tell w_X12_tell) := goodIn_app (goodIn_of _ (by decide +kernel)) gg_X12_takeValley_X12_tell
set_option maxHeartbeats 4000000 in
set_option maxRecDepth 100000 in
theorem c_X12_takeValley (l : Launch) (E : py_E) (G : wf_G) (L : List Nat) (f : py_F) (sz : Nat) (u : Nat) (hG : GT G) (hWF : WF E G L f) (Tu : G.1 u = 13) (hq0 : RFm f G u (mi f u 20)) : Met l yX12_takeValley w_X12_takeValley ({ frames := 3, cells := 0, slots := 0, locals := 69 }) (py_Pc E [.ref u] L f sz) (py_Qi E L f sz (fun r L1 f1 => (r.toInt = mi f u 20) ∧ WF E G L1 f1 ∧ KP G [52, 55, 53, 54, 13] false f f1 ∧ FK [24, 25, 29, 43, 53] f f1 u)) 0 0 (va_A (va_pl L f) sz) := by
  refine Met.ofW (cc := cX12_takeValley) (maxL := 3) (ret := (some .int)) (by decide) rfl ?_
  intro p e s m args below meth c s₁ B hml hv
  obtain ⟨rfl, rfl, hw⟩ := py_start hv
  have G0 : CallFix p m c cX12_takeValley 3 s _ w_X12_takeValley RX12 := ⟨B.exec, B.bytes, hml, findClass_of_methodNamed B.named, atoms_spec (ws := w_X12_takeValley) B.pre⟩
  have hr := B.returns
  have hlk := B.notSynchronized
  have kcm1 : (-1 : Int32).toInt = -1 := rfl
  have kc0 : (0 : Int32).toInt = 0 := rfl
  have kc1 : (1 : Int32).toInt = 1 := rfl
  have kc2 : (2 : Int32).toInt = 2 := rfl
  have kc3 : (3 : Int32).toInt = 3 := rfl
  have kc4 : (4 : Int32).toInt = 4 := rfl
  have kc32 : (32 : Int32).toInt = 32 := rfl
  have kc90 : (90 : Int32).toInt = 90 := rfl
  have hl := lv_entry ([.ref u]) (n := 3) (Nat.le_of_ble_eq_true rfl)
  rw [lg_entry_eq]
  generalize (lg_sl ([.ref u]) ++ List.replicate (3 - (lg_sl ([.ref u])).length) Slot.unset).toArray = ls at hl ⊢
  have hl : lv_has ls 3 [(0, .ref u)] := hl
  have hFK : FK [24, 25, 29, 43, 53] f f u := FK.refl
  have hKP : KP G [52, 55, 53, 54, 13] false f f := KP.refl
  have hR := hq0
  refine lv_aload_n G0.1 G0.2.1 dX12_takeValley_0 rfl (lv_at hl 0 rfl) ?_
  refine lv_aload_n G0.1 G0.2.1 dX12_takeValley_1 rfl (lv_at hl 0 rfl) ?_
  obtain ⟨v_1, v_2, v_3, v_4, v_5, v_6, v_7, v_8, v_9, v_10, v_11, v_12, y_13, v_14, v_15, v_16, v_17, v_18, y_19, v_20, y_21, v_22, hr_35, b_23, b_24, b_25, b_26, b_27, b_28, b_29, b_30, b_31, b_32, b_33, b_34⟩ := wg_12 hWF Tu
  have tq_36 := mi_row hr_35 20 rfl
  have tq_37 := mi_row hr_35 25 rfl
  refine py_get (C := RX12) (T := TX12) (N := 54) (k := 19) (v := .int v_8) G0 hw in_X12_takeValley_X12 rfl hr_35 (by decide) (by decide +kernel) rfl dX12_takeValley_2 ?_
  refine py_put (C := RX12) (T := TX12) (N := 54) (k := 24) (v := .int v_8) (fs' := [.int v_1, .ref (G.2 u 1), .int v_2, .int v_3, .int v_4, .int v_5, .ref (G.2 u 6), .ref (G.2 u 7), .ref (G.2 u 8), .ref (G.2 u 9), .ref (G.2 u 10), .ref (G.2 u 11), .ref (G.2 u 12), .int v_6, .int v_7, .ref (G.2 u 15), .ref (G.2 u 16), .ref (G.2 u 17), .ref (G.2 u 18), .int v_8, .int v_9, .ref (G.2 u 21), .ref (G.2 u 22), .ref (G.2 u 23), .int v_8, .int v_11, .ref (G.2 u 26), .ref (G.2 u 27), .ref (G.2 u 28), .int v_12, .long y_13, .int v_14, .int v_15, .int v_16, .int v_17, .ref (G.2 u 35), .ref (G.2 u 36), .ref (G.2 u 37), .ref (G.2 u 38), .ref (G.2 u 39), .ref (G.2 u 40), .ref (G.2 u 41), .ref (G.2 u 42), .int v_18, .ref (G.2 u 44), .ref (G.2 u 45), .ref (G.2 u 46), .ref (G.2 u 47), .long y_19, .ref (G.2 u 49), .ref (G.2 u 50), .int v_20, .long y_21, .int v_22]) (ty0 := tyX12) G0 hw tyX12_ok nmX12 in_X12_takeValley_X12 rfl hr_35 (by decide) (by decide +kernel) rfl rfl rfl rfl (Nat.le_of_ble_eq_true rfl) rfl dX12_takeValley_5 (fun f_38 H_39 locs h_40 x_41 hw => ?_)
  have hR := hR.same ((x_41 _ (hWF _ (by rw [(wt12_18 hG Tu)]; decide)).1 (wf_ne (wt12_18 hG Tu) Tu (by decide))).2) rfl
  have hFK := hFK.put hr_35 h_40 24 (by decide) rfl
  have hKP := hKP.upd hWF x_41 Tu (Or.inl (by decide))
  have hWF := wf_upd hWF h_40 x_41 (by rw [Tu]; exact ⟨v_1, v_2, v_3, v_4, v_5, v_6, v_7, v_8, v_9, v_8, v_11, v_12, y_13, v_14, v_15, v_16, v_17, v_18, y_19, v_20, y_21, v_22, rfl, ⟨by omega, by omega⟩, ⟨by omega, by omega⟩, ⟨by omega, by omega⟩, ⟨by omega, by omega⟩, ⟨by omega, by omega⟩, ⟨by omega, by omega⟩, ⟨by omega, by omega⟩, ⟨by omega, by omega⟩, ⟨by omega, by omega⟩, ⟨by omega, by omega⟩, ⟨by omega, by omega⟩, ⟨by omega, by omega⟩⟩)
  have tq_42 := mi_row h_40 20 rfl
  have tq_43 := mi_row h_40 25 rfl
  refine lv_aload_n G0.1 G0.2.1 dX12_takeValley_8 rfl (lv_at hl 0 rfl) ?_
  refine lv_aload_n G0.1 G0.2.1 dX12_takeValley_9 rfl (lv_at hl 0 rfl) ?_
  refine py_get (C := RX12) (T := TX12) (N := 54) (k := 20) (v := .int v_9) G0 hw in_X12_takeValley_X12 rfl h_40 (by decide) (by decide +kernel) rfl dX12_takeValley_10 ?_
  refine py_put (C := RX12) (T := TX12) (N := 54) (k := 25) (v := .int v_9) (fs' := [.int v_1, .ref (G.2 u 1), .int v_2, .int v_3, .int v_4, .int v_5, .ref (G.2 u 6), .ref (G.2 u 7), .ref (G.2 u 8), .ref (G.2 u 9), .ref (G.2 u 10), .ref (G.2 u 11), .ref (G.2 u 12), .int v_6, .int v_7, .ref (G.2 u 15), .ref (G.2 u 16), .ref (G.2 u 17), .ref (G.2 u 18), .int v_8, .int v_9, .ref (G.2 u 21), .ref (G.2 u 22), .ref (G.2 u 23), .int v_8, .int v_9, .ref (G.2 u 26), .ref (G.2 u 27), .ref (G.2 u 28), .int v_12, .long y_13, .int v_14, .int v_15, .int v_16, .int v_17, .ref (G.2 u 35), .ref (G.2 u 36), .ref (G.2 u 37), .ref (G.2 u 38), .ref (G.2 u 39), .ref (G.2 u 40), .ref (G.2 u 41), .ref (G.2 u 42), .int v_18, .ref (G.2 u 44), .ref (G.2 u 45), .ref (G.2 u 46), .ref (G.2 u 47), .long y_19, .ref (G.2 u 49), .ref (G.2 u 50), .int v_20, .long y_21, .int v_22]) (ty0 := tyX12) G0 hw tyX12_ok nmX12 in_X12_takeValley_X12 rfl h_40 (by decide) (by decide +kernel) rfl rfl rfl rfl (Nat.le_of_ble_eq_true rfl) rfl dX12_takeValley_13 (fun f_44 H_45 locs h_46 x_47 hw => ?_)
  have hR := hR.same ((x_47 _ (hWF _ (by rw [(wt12_18 hG Tu)]; decide)).1 (wf_ne (wt12_18 hG Tu) Tu (by decide))).2) rfl
  have hFK := hFK.put h_40 h_46 25 (by decide) rfl
  have hKP := hKP.upd hWF x_47 Tu (Or.inl (by decide))
  have hWF := wf_upd hWF h_46 x_47 (by rw [Tu]; exact ⟨v_1, v_2, v_3, v_4, v_5, v_6, v_7, v_8, v_9, v_8, v_9, v_12, y_13, v_14, v_15, v_16, v_17, v_18, y_19, v_20, y_21, v_22, rfl, ⟨by omega, by omega⟩, ⟨by omega, by omega⟩, ⟨by omega, by omega⟩, ⟨by omega, by omega⟩, ⟨by omega, by omega⟩, ⟨by omega, by omega⟩, ⟨by omega, by omega⟩, ⟨by omega, by omega⟩, ⟨by omega, by omega⟩, ⟨by omega, by omega⟩, ⟨by omega, by omega⟩, ⟨by omega, by omega⟩⟩)
  have tq_48 := mi_row h_46 20 rfl
  have tq_49 := mi_row h_46 25 rfl
  refine lv_iconst (v := 0) G0.1 G0.2.1 dX12_takeValley_16 (by decide) ?_
  refine lv_istore_n (lv' := [(1, .int 0), (0, .ref u)]) G0.1 G0.2.1 dX12_takeValley_17 rfl hl (by decide) rfl (fun ls hl => ?_)
  have lo_18 : ∀ n_18 : Nat, ∀ (v_50 : Int32) (L_j18 : List Nat) (f_j18 : py_F) (H_j18 : Heap) (locs : List Loc) (ls : Array Slot), (2147483647 - v_50.toInt).toNat = n_18 → (0 ≤ v_50.toInt ∧ v_50.toInt ≤ 2147483647) → WF E G L_j18 f_j18 → KP G [52, 55, 53, 54, 13] false f f_j18 → RFm f_j18 G u (mi f u 20) → FK [24, 25, 29, 43, 53] f f_j18 u → (mi f_j18 u 25 = mi f u 20) → py_W E (va_A (va_pl L f) s.heap.size) s L_j18 f_j18 H_j18 locs → lv_has ls 3 [(1, .int v_50), (0, .ref u)] → W p l e (headSpec w_X12_takeValley ({ frames := 3, cells := 0, slots := 0, locals := 69 })).room s m ([.ref u] : List Value).toArray below meth c H_j18 locs 0 0 (MQ below (py_Qi E L f s.heap.size (fun r L1 f1 => (r.toInt = mi f u 20) ∧ WF E G L1 f1 ∧ KP G [52, 55, 53, 54, 13] false f f1 ∧ FK [24, 25, 29, 43, 53] f f1 u)) ([.ref u] : List Value).toArray s 0 0 (va_A (va_pl L f) s.heap.size)) (F0 m 18 ls []) := by
    intro n_18
    induction n_18 using Nat.strongRecOn with
    | _ n_18 ih_18 =>
      intro v_50 L_j18 f_j18 H_j18 locs ls hn_18 bv_50 hWF hKP hR hFK iv0 hw hl
      refine lv_iload_n G0.1 G0.2.1 dX12_takeValley_18 rfl (lv_at hl 0 rfl) ?_
      refine lv_bipush (v := 32) G0.1 G0.2.1 dX12_takeValley_19 (by decide) ?_
      refine lv_icmp_ge (tgt := 42) G0.1 G0.2.1 dX12_takeValley_21 (by decide) (fun c_51 => ?_) (fun c_51 => ?_)
      · skip
        have tc_51 := ti_le c_51
        refine lv_iconst (v := 0) G0.1 G0.2.1 dX12_takeValley_42 (by decide) ?_
        refine lv_istore_n (lv' := [(1, .int 0), (0, .ref u)]) G0.1 G0.2.1 dX12_takeValley_43 rfl hl (by decide) rfl (fun ls hl => ?_)
        have lo_44 : ∀ n_44 : Nat, ∀ (v_52 : Int32) (L_j44 : List Nat) (f_j44 : py_F) (H_j44 : Heap) (locs : List Loc) (ls : Array Slot), (2147483647 - v_52.toInt).toNat = n_44 → (0 ≤ v_52.toInt ∧ v_52.toInt ≤ 2147483647) → WF E G L_j44 f_j44 → KP G [52, 55, 53, 54, 13] false f f_j44 → RFm f_j44 G u (mi f u 20) → FK [24, 25, 29, 43, 53] f f_j44 u → (mi f_j44 u 25 = mi f u 20) → py_W E (va_A (va_pl L f) s.heap.size) s L_j44 f_j44 H_j44 locs → lv_has ls 3 [(1, .int v_52), (0, .ref u)] → W p l e (headSpec w_X12_takeValley ({ frames := 3, cells := 0, slots := 0, locals := 69 })).room s m ([.ref u] : List Value).toArray below meth c H_j44 locs 0 0 (MQ below (py_Qi E L f s.heap.size (fun r L1 f1 => (r.toInt = mi f u 20) ∧ WF E G L1 f1 ∧ KP G [52, 55, 53, 54, 13] false f f1 ∧ FK [24, 25, 29, 43, 53] f f1 u)) ([.ref u] : List Value).toArray s 0 0 (va_A (va_pl L f) s.heap.size)) (F0 m 44 ls []) := by
          intro n_44
          induction n_44 using Nat.strongRecOn with
          | _ n_44 ih_44 =>
            intro v_52 L_j44 f_j44 H_j44 locs ls hn_44 bv_52 hWF hKP hR hFK iv0 hw hl
            refine lv_iload_n G0.1 G0.2.1 dX12_takeValley_44 rfl (lv_at hl 0 rfl) ?_
            refine lv_bipush (v := 90) G0.1 G0.2.1 dX12_takeValley_45 (by decide) ?_
            refine lv_icmp_ge (tgt := 63) G0.1 G0.2.1 dX12_takeValley_47 (by decide) (fun c_53 => ?_) (fun c_53 => ?_)
            · skip
              have tc_53 := ti_le c_53
              refine lv_iconst (v := 0) G0.1 G0.2.1 dX12_takeValley_63 (by decide) ?_
              refine lv_istore_n (lv' := [(1, .int 0), (0, .ref u)]) G0.1 G0.2.1 dX12_takeValley_64 rfl hl (by decide) rfl (fun ls hl => ?_)
              have lo_65 : ∀ n_65 : Nat, ∀ (v_54 : Int32) (L_j65 : List Nat) (f_j65 : py_F) (H_j65 : Heap) (locs : List Loc) (ls : Array Slot), (2147483647 - v_54.toInt).toNat = n_65 → (0 ≤ v_54.toInt ∧ v_54.toInt ≤ 2147483647) → WF E G L_j65 f_j65 → KP G [52, 55, 53, 54, 13] false f f_j65 → RFm f_j65 G u (mi f u 20) → FK [24, 25, 29, 43, 53] f f_j65 u → (mi f_j65 u 25 = mi f u 20) → py_W E (va_A (va_pl L f) s.heap.size) s L_j65 f_j65 H_j65 locs → lv_has ls 3 [(1, .int v_54), (0, .ref u)] → W p l e (headSpec w_X12_takeValley ({ frames := 3, cells := 0, slots := 0, locals := 69 })).room s m ([.ref u] : List Value).toArray below meth c H_j65 locs 0 0 (MQ below (py_Qi E L f s.heap.size (fun r L1 f1 => (r.toInt = mi f u 20) ∧ WF E G L1 f1 ∧ KP G [52, 55, 53, 54, 13] false f f1 ∧ FK [24, 25, 29, 43, 53] f f1 u)) ([.ref u] : List Value).toArray s 0 0 (va_A (va_pl L f) s.heap.size)) (F0 m 65 ls []) := by
                intro n_65
                induction n_65 using Nat.strongRecOn with
                | _ n_65 ih_65 =>
                  intro v_54 L_j65 f_j65 H_j65 locs ls hn_65 bv_54 hWF hKP hR hFK iv0 hw hl
                  refine lv_iload_n G0.1 G0.2.1 dX12_takeValley_65 rfl (lv_at hl 0 rfl) ?_
                  refine lv_aload_n G0.1 G0.2.1 dX12_takeValley_66 rfl (lv_at hl 1 rfl) ?_
                  obtain ⟨v_55, v_56, v_57, v_58, v_59, v_60, v_61, v_62, v_63, v_64, v_65, v_66, y_67, v_68, v_69, v_70, v_71, v_72, y_73, v_74, y_75, v_76, hr_89, b_77, b_78, b_79, b_80, b_81, b_82, b_83, b_84, b_85, b_86, b_87, b_88⟩ := wg_12 hWF Tu
                  have tq_90 := mi_row hr_89 20 rfl
                  have tq_91 := mi_row hr_89 25 rfl
                  refine py_get (C := RX12) (T := TX12) (N := 54) (k := 25) (v := .int v_65) G0 hw in_X12_takeValley_X12 rfl hr_89 (by decide) (by decide +kernel) rfl dX12_takeValley_67 ?_
                  refine lv_icmp_ge (tgt := 86) G0.1 G0.2.1 dX12_takeValley_70 (by decide) (fun c_92 => ?_) (fun c_92 => ?_)
                  · skip
                    have tc_92 := ti_le c_92
                    refine lv_iconst (v := 0) G0.1 G0.2.1 dX12_takeValley_86 (by decide) ?_
                    refine lv_istore_n (lv' := [(1, .int 0), (0, .ref u)]) G0.1 G0.2.1 dX12_takeValley_87 rfl hl (by decide) rfl (fun ls hl => ?_)
                    have lo_88 : ∀ n_88 : Nat, ∀ (v_93 : Int32) (L_j88 : List Nat) (f_j88 : py_F) (H_j88 : Heap) (locs : List Loc) (ls : Array Slot), (2147483647 - v_93.toInt).toNat = n_88 → (0 ≤ v_93.toInt ∧ v_93.toInt ≤ 2147483647) → WF E G L_j88 f_j88 → KP G [52, 55, 53, 54, 13] false f f_j88 → RFm f_j88 G u (mi f u 20) → FK [24, 25, 29, 43, 53] f f_j88 u → (mi f_j88 u 25 = mi f u 20) → py_W E (va_A (va_pl L f) s.heap.size) s L_j88 f_j88 H_j88 locs → lv_has ls 3 [(1, .int v_93), (0, .ref u)] → W p l e (headSpec w_X12_takeValley ({ frames := 3, cells := 0, slots := 0, locals := 69 })).room s m ([.ref u] : List Value).toArray below meth c H_j88 locs 0 0 (MQ below (py_Qi E L f s.heap.size (fun r L1 f1 => (r.toInt = mi f u 20) ∧ WF E G L1 f1 ∧ KP G [52, 55, 53, 54, 13] false f f1 ∧ FK [24, 25, 29, 43, 53] f f1 u)) ([.ref u] : List Value).toArray s 0 0 (va_A (va_pl L f) s.heap.size)) (F0 m 88 ls []) := by
                      intro n_88
                      induction n_88 using Nat.strongRecOn with
                      | _ n_88 ih_88 =>
                        intro v_93 L_j88 f_j88 H_j88 locs ls hn_88 bv_93 hWF hKP hR hFK iv0 hw hl
                        refine lv_iload_n G0.1 G0.2.1 dX12_takeValley_88 rfl (lv_at hl 0 rfl) ?_
                        refine lv_aload_n G0.1 G0.2.1 dX12_takeValley_89 rfl (lv_at hl 1 rfl) ?_
                        obtain ⟨v_94, v_95, v_96, v_97, v_98, v_99, v_100, v_101, v_102, v_103, v_104, v_105, y_106, v_107, v_108, v_109, v_110, v_111, y_112, v_113, y_114, v_115, hr_128, b_116, b_117, b_118, b_119, b_120, b_121, b_122, b_123, b_124, b_125, b_126, b_127⟩ := wg_12 hWF Tu
                        have tq_129 := mi_row hr_128 20 rfl
                        have tq_130 := mi_row hr_128 25 rfl
                        refine py_get (C := RX12) (T := TX12) (N := 54) (k := 25) (v := .int v_104) G0 hw in_X12_takeValley_X12 rfl hr_128 (by decide) (by decide +kernel) rfl dX12_takeValley_90 ?_
                        refine lv_icmp_ge (tgt := 178) G0.1 G0.2.1 dX12_takeValley_93 (by decide) (fun c_131 => ?_) (fun c_131 => ?_)
                        · skip
                          have tc_131 := ti_le c_131
                          refine lv_aload_n G0.1 G0.2.1 dX12_takeValley_178 rfl (lv_at hl 1 rfl) ?_
                          refine lv_iconst (v := 0) G0.1 G0.2.1 dX12_takeValley_179 (by decide) ?_
                          refine py_put (C := RX12) (T := TX12) (N := 54) (k := 29) (v := .int 0) (fs' := [.int v_94, .ref (G.2 u 1), .int v_95, .int v_96, .int v_97, .int v_98, .ref (G.2 u 6), .ref (G.2 u 7), .ref (G.2 u 8), .ref (G.2 u 9), .ref (G.2 u 10), .ref (G.2 u 11), .ref (G.2 u 12), .int v_99, .int v_100, .ref (G.2 u 15), .ref (G.2 u 16), .ref (G.2 u 17), .ref (G.2 u 18), .int v_101, .int v_102, .ref (G.2 u 21), .ref (G.2 u 22), .ref (G.2 u 23), .int v_103, .int v_104, .ref (G.2 u 26), .ref (G.2 u 27), .ref (G.2 u 28), .int 0, .long y_106, .int v_107, .int v_108, .int v_109, .int v_110, .ref (G.2 u 35), .ref (G.2 u 36), .ref (G.2 u 37), .ref (G.2 u 38), .ref (G.2 u 39), .ref (G.2 u 40), .ref (G.2 u 41), .ref (G.2 u 42), .int v_111, .ref (G.2 u 44), .ref (G.2 u 45), .ref (G.2 u 46), .ref (G.2 u 47), .long y_112, .ref (G.2 u 49), .ref (G.2 u 50), .int v_113, .long y_114, .int v_115]) (ty0 := tyX12) G0 hw tyX12_ok nmX12 in_X12_takeValley_X12 rfl hr_128 (by decide) (by decide +kernel) rfl rfl rfl rfl (Nat.le_of_ble_eq_true rfl) rfl dX12_takeValley_180 (fun f_132 H_133 locs h_134 x_135 hw => ?_)
                          have hR := hR.same ((x_135 _ (hWF _ (by rw [(wt12_18 hG Tu)]; decide)).1 (wf_ne (wt12_18 hG Tu) Tu (by decide))).2) rfl
                          have hFK := hFK.put hr_128 h_134 29 (by decide) rfl
                          have hKP := hKP.upd hWF x_135 Tu (Or.inl (by decide))
                          have hWF := wf_upd hWF h_134 x_135 (by rw [Tu]; exact ⟨v_94, v_95, v_96, v_97, v_98, v_99, v_100, v_101, v_102, v_103, v_104, 0, y_106, v_107, v_108, v_109, v_110, v_111, y_112, v_113, y_114, v_115, rfl, ⟨by omega, by omega⟩, ⟨by omega, by omega⟩, ⟨by omega, by omega⟩, ⟨by omega, by omega⟩, ⟨by omega, by omega⟩, ⟨by omega, by omega⟩, ⟨by omega, by omega⟩, ⟨by omega, by omega⟩, ⟨by omega, by omega⟩, ⟨by omega, by omega⟩, ⟨by omega, by omega⟩, ⟨by omega, by omega⟩⟩)
                          have tq_136 := mi_row h_134 20 rfl
                          have tq_137 := mi_row h_134 25 rfl
                          refine lv_aload_n G0.1 G0.2.1 dX12_takeValley_183 rfl (lv_at hl 1 rfl) ?_
                          refine lv_iconst (v := 0) G0.1 G0.2.1 dX12_takeValley_184 (by decide) ?_
                          refine py_put (C := RX12) (T := TX12) (N := 54) (k := 43) (v := .int 0) (fs' := [.int v_94, .ref (G.2 u 1), .int v_95, .int v_96, .int v_97, .int v_98, .ref (G.2 u 6), .ref (G.2 u 7), .ref (G.2 u 8), .ref (G.2 u 9), .ref (G.2 u 10), .ref (G.2 u 11), .ref (G.2 u 12), .int v_99, .int v_100, .ref (G.2 u 15), .ref (G.2 u 16), .ref (G.2 u 17), .ref (G.2 u 18), .int v_101, .int v_102, .ref (G.2 u 21), .ref (G.2 u 22), .ref (G.2 u 23), .int v_103, .int v_104, .ref (G.2 u 26), .ref (G.2 u 27), .ref (G.2 u 28), .int 0, .long y_106, .int v_107, .int v_108, .int v_109, .int v_110, .ref (G.2 u 35), .ref (G.2 u 36), .ref (G.2 u 37), .ref (G.2 u 38), .ref (G.2 u 39), .ref (G.2 u 40), .ref (G.2 u 41), .ref (G.2 u 42), .int 0, .ref (G.2 u 44), .ref (G.2 u 45), .ref (G.2 u 46), .ref (G.2 u 47), .long y_112, .ref (G.2 u 49), .ref (G.2 u 50), .int v_113, .long y_114, .int v_115]) (ty0 := tyX12) G0 hw tyX12_ok nmX12 in_X12_takeValley_X12 rfl h_134 (by decide) (by decide +kernel) rfl rfl rfl rfl (Nat.le_of_ble_eq_true rfl) rfl dX12_takeValley_185 (fun f_138 H_139 locs h_140 x_141 hw => ?_)
                          have hR := hR.same ((x_141 _ (hWF _ (by rw [(wt12_18 hG Tu)]; decide)).1 (wf_ne (wt12_18 hG Tu) Tu (by decide))).2) rfl
                          have hFK := hFK.put h_134 h_140 43 (by decide) rfl
                          have hKP := hKP.upd hWF x_141 Tu (Or.inl (by decide))
                          have hWF := wf_upd hWF h_140 x_141 (by rw [Tu]; exact ⟨v_94, v_95, v_96, v_97, v_98, v_99, v_100, v_101, v_102, v_103, v_104, 0, y_106, v_107, v_108, v_109, v_110, 0, y_112, v_113, y_114, v_115, rfl, ⟨by omega, by omega⟩, ⟨by omega, by omega⟩, ⟨by omega, by omega⟩, ⟨by omega, by omega⟩, ⟨by omega, by omega⟩, ⟨by omega, by omega⟩, ⟨by omega, by omega⟩, ⟨by omega, by omega⟩, ⟨by omega, by omega⟩, ⟨by omega, by omega⟩, ⟨by omega, by omega⟩, ⟨by omega, by omega⟩⟩)
                          have tq_142 := mi_row h_140 20 rfl
                          have tq_143 := mi_row h_140 25 rfl
                          refine lv_aload_n G0.1 G0.2.1 dX12_takeValley_188 rfl (lv_at hl 1 rfl) ?_
                          refine lv_iconst (v := 0) G0.1 G0.2.1 dX12_takeValley_189 (by decide) ?_
                          refine py_put (C := RX12) (T := TX12) (N := 54) (k := 53) (v := .int 0) (fs' := [.int v_94, .ref (G.2 u 1), .int v_95, .int v_96, .int v_97, .int v_98, .ref (G.2 u 6), .ref (G.2 u 7), .ref (G.2 u 8), .ref (G.2 u 9), .ref (G.2 u 10), .ref (G.2 u 11), .ref (G.2 u 12), .int v_99, .int v_100, .ref (G.2 u 15), .ref (G.2 u 16), .ref (G.2 u 17), .ref (G.2 u 18), .int v_101, .int v_102, .ref (G.2 u 21), .ref (G.2 u 22), .ref (G.2 u 23), .int v_103, .int v_104, .ref (G.2 u 26), .ref (G.2 u 27), .ref (G.2 u 28), .int 0, .long y_106, .int v_107, .int v_108, .int v_109, .int v_110, .ref (G.2 u 35), .ref (G.2 u 36), .ref (G.2 u 37), .ref (G.2 u 38), .ref (G.2 u 39), .ref (G.2 u 40), .ref (G.2 u 41), .ref (G.2 u 42), .int 0, .ref (G.2 u 44), .ref (G.2 u 45), .ref (G.2 u 46), .ref (G.2 u 47), .long y_112, .ref (G.2 u 49), .ref (G.2 u 50), .int v_113, .long y_114, .int 0]) (ty0 := tyX12) G0 hw tyX12_ok nmX12 in_X12_takeValley_X12 rfl h_140 (by decide) (by decide +kernel) rfl rfl rfl rfl (Nat.le_of_ble_eq_true rfl) rfl dX12_takeValley_190 (fun f_144 H_145 locs h_146 x_147 hw => ?_)
                          have hR := hR.same ((x_147 _ (hWF _ (by rw [(wt12_18 hG Tu)]; decide)).1 (wf_ne (wt12_18 hG Tu) Tu (by decide))).2) rfl
                          have hFK := hFK.put h_140 h_146 53 (by decide) rfl
                          have hKP := hKP.upd hWF x_147 Tu (Or.inl (by decide))
                          have hWF := wf_upd hWF h_146 x_147 (by rw [Tu]; exact ⟨v_94, v_95, v_96, v_97, v_98, v_99, v_100, v_101, v_102, v_103, v_104, 0, y_106, v_107, v_108, v_109, v_110, 0, y_112, v_113, y_114, 0, rfl, ⟨by omega, by omega⟩, ⟨by omega, by omega⟩, ⟨by omega, by omega⟩, ⟨by omega, by omega⟩, ⟨by omega, by omega⟩, ⟨by omega, by omega⟩, ⟨by omega, by omega⟩, ⟨by omega, by omega⟩, ⟨by omega, by omega⟩, ⟨by omega, by omega⟩, ⟨by omega, by omega⟩, ⟨by omega, by omega⟩⟩)
                          have tq_148 := mi_row h_146 20 rfl
                          have tq_149 := mi_row h_146 25 rfl
                          refine lv_aload_n G0.1 G0.2.1 dX12_takeValley_193 rfl (lv_at hl 1 rfl) ?_
                          refine py_get (C := RX12) (T := TX12) (N := 54) (k := 25) (v := .int v_104) G0 hw in_X12_takeValley_X12 rfl h_146 (by decide) (by decide +kernel) rfl dX12_takeValley_194 ?_
                          exact py_iret G0 hr rfl hlk hw ⟨(by first | omega | (intro q; omega)), hWF, hKP, hFK⟩ dX12_takeValley_197
                        · skip
                          have tc_131 := ti_nle c_131
                          refine lv_aload_n G0.1 G0.2.1 dX12_takeValley_96 rfl (lv_at hl 1 rfl) ?_
                          refine py_get (C := RX12) (T := TX12) (N := 54) (k := 18) (v := .ref (G.2 u 18)) G0 hw in_X12_takeValley_X12 rfl hr_128 (by decide) (by decide +kernel) rfl dX12_takeValley_97 ?_
                          refine lv_iconst (v := 4) G0.1 G0.2.1 dX12_takeValley_100 (by decide) ?_
                          refine lv_iload_n G0.1 G0.2.1 dX12_takeValley_101 rfl (lv_at hl 0 rfl) ?_
                          refine lv_imul G0.1 G0.2.1 dX12_takeValley_102 ?_
                          refine lv_topi (fun x_150 ex_150 => ?_)
                          first | have tx_150 := ti_muld ex_150 kc4 (by omega -splitDisjunctions) (by omega -splitDisjunctions) | skip
                          refine lv_iconst (v := 1) G0.1 G0.2.1 dX12_takeValley_103 (by decide) ?_
                          refine lv_iadd G0.1 G0.2.1 dX12_takeValley_104 ?_
                          refine lv_topi (fun x_151 ex_151 => ?_)
                          first | have tx_151 := ti_add ex_151 (by omega -splitDisjunctions) (by omega -splitDisjunctions) | skip
                          obtain ⟨g_152, ha_153, hi_154⟩ := wf_arr (n := 40) (lo := (-2147483648)) (hi := 2147483647) hWF (wt12_18 hG Tu) (by decide) (fun _ => rfl)
                          have rg_155 : vp_in x_151 40 := ti_in (by omega) (by omega)
                          refine py_iald G0 hw ha_153 rg_155 dX12_takeValley_105 ?_
                          refine lv_topi (fun x_156 ex_156 => ?_)
                          have bx_156 := wf_free x_156
                          have zx_156 := arz_ld ha_153 ex_156
                          have hr1 : 0 ≤ x_156.toInt ∧ x_156.toInt ≤ 7 := by have hr := (hR v_93.toInt (by omega) (by omega)).2; rw [show 4 * v_93.toInt + 1 = x_151.toInt by omega, zx_156] at hr; exact hr
                          refine lv_istore_n (lv' := [(2, .int x_156), (1, .int v_93), (0, .ref u)]) G0.1 G0.2.1 dX12_takeValley_106 rfl hl (by decide) rfl (fun ls hl => ?_)
                          refine lv_aload_n G0.1 G0.2.1 dX12_takeValley_107 rfl (lv_at hl 2 rfl) ?_
                          refine lv_iload_n G0.1 G0.2.1 dX12_takeValley_108 rfl (lv_at hl 1 rfl) ?_
                          refine lv_iconst (v := 2) G0.1 G0.2.1 dX12_takeValley_109 (by decide) ?_
                          refine lv_aload_n G0.1 G0.2.1 dX12_takeValley_110 rfl (lv_at hl 2 rfl) ?_
                          refine lv_iload_n G0.1 G0.2.1 dX12_takeValley_111 rfl (lv_at hl 0 rfl) ?_
                          refine lv_iconst (v := 0) G0.1 G0.2.1 dX12_takeValley_112 (by decide) ?_
                          refine py_calli hw (va_runV (As := [.int x_156, .int 0]) (rest := [.int 2, .int v_93, .ref u]) G0 (c_X12_emptyHut l E G L_j88 f_j88 H_j88.size u x_156 0 hG hWF Tu ⟨by omega, by omega⟩) (cwV 2 G0.2.2.2.2 g_X12_takeValley_X12_emptyHut_299 rfl rfl rfl (by decide +kernel) ⟨(Nat.le_of_ble_eq_true rfl), (Nat.le_of_ble_eq_true rfl)⟩) (py_preV hw (C := RX12) (T := TX12) (N := 54) rfl hr_128) rfl rfl hl.1 rfl (lv_room (Nat.le_of_ble_eq_true rfl)) dX12_takeValley_113 ⟨(Nat.le_of_ble_eq_true rfl), (Nat.le_of_ble_eq_true rfl)⟩) (fun r_161 L_157 f_158 H_159 locs hp_160 hw => ?_)
                          obtain ⟨en_162, en_163, rfl, rfl⟩ := hp_160
                          have en_162 : r_161.toInt = -1 → (0 : Int) = 0 → ¬ EH f_j88 G u x_156.toInt := en_162
                          have en_163 : r_161.toInt ≠ -1 → EH f_j88 G u x_156.toInt ∧ (0 : Int) ≤ r_161.toInt ∧ r_161.toInt < lr f_j88 G u x_156.toInt 0 ∧ r_161.toInt < 2147483647 := en_163
                          have br_161 := wf_free r_161
                          refine py_callv hw (va_runV (As := [.int v_93, .int 2, .int r_161]) (rest := []) G0 (c_X12_tell l E G L_j88 f_j88 H_159.size u v_93 2 r_161 hG hWF Tu ⟨by omega, by omega⟩ ⟨by omega, by omega⟩ (show ((2 : Int32).toInt = 0 → 0 ≤ r_161.toInt ∧ r_161.toInt ≤ 20) ∧ ((2 : Int32).toInt = 1 → -1 ≤ r_161.toInt ∧ r_161.toInt ≤ 7) by omega)) (cwV 3 G0.2.2.2.2 g_X12_takeValley_X12_tell_305 rfl rfl rfl (by decide +kernel) ⟨(Nat.le_of_ble_eq_true rfl), (Nat.le_of_ble_eq_true rfl)⟩) (py_preV hw (C := RX12) (T := TX12) (N := 54) rfl hr_128) rfl rfl hl.1 rfl (lv_room (Nat.le_of_ble_eq_true rfl)) dX12_takeValley_116 ⟨(Nat.le_of_ble_eq_true rfl), (Nat.le_of_ble_eq_true rfl)⟩) (fun L_164 f_165 H_166 locs hp_167 hw => ?_)
                          obtain ⟨en_169, hWF, kp_170, fk_171⟩ := hp_167
                          have en_169 : TL f_j88 f_165 G u v_93.toInt (2 : Int) r_161.toInt := en_169
                          have hR := hR.same (kp_f kp_170 (wt12_18 hG Tu) (by decide) (by decide) (fun _ => by decide)) rfl
                          have hFK := hFK.trans fk_171 (by decide)
                          have hKP := hKP.trans kp_170 (by decide) (by decide)
                          have hr_128 := kp_at kp_170 hWF Tu (by decide) (by decide) (by decide) hr_128
                          have tq_172 := mi_row hr_128 20 rfl
                          have tq_173 := mi_row hr_128 25 rfl
                          have ha_153 := kp_at kp_170 hWF (wt12_18 hG Tu) (by decide) (by decide) (by decide) ha_153
                          refine lv_aload_n G0.1 G0.2.1 dX12_takeValley_119 rfl (lv_at hl 2 rfl) ?_
                          refine lv_iload_n G0.1 G0.2.1 dX12_takeValley_120 rfl (lv_at hl 1 rfl) ?_
                          refine lv_iconst (v := 1) G0.1 G0.2.1 dX12_takeValley_121 (by decide) ?_
                          refine lv_iload_n G0.1 G0.2.1 dX12_takeValley_122 rfl (lv_at hl 0 rfl) ?_
                          refine py_callv hw (va_runV (As := [.int v_93, .int 1, .int x_156]) (rest := []) G0 (c_X12_tell l E G L_164 f_165 H_166.size u v_93 1 x_156 hG hWF Tu ⟨by omega, by omega⟩ ⟨by omega, by omega⟩ (show ((1 : Int32).toInt = 0 → 0 ≤ x_156.toInt ∧ x_156.toInt ≤ 20) ∧ ((1 : Int32).toInt = 1 → -1 ≤ x_156.toInt ∧ x_156.toInt ≤ 7) by omega)) (cwV 3 G0.2.2.2.2 g_X12_takeValley_X12_tell_305 rfl rfl rfl (by decide +kernel) ⟨(Nat.le_of_ble_eq_true rfl), (Nat.le_of_ble_eq_true rfl)⟩) (py_preV hw (C := RX12) (T := TX12) (N := 54) rfl hr_128) rfl rfl hl.1 rfl (lv_room (Nat.le_of_ble_eq_true rfl)) dX12_takeValley_123 ⟨(Nat.le_of_ble_eq_true rfl), (Nat.le_of_ble_eq_true rfl)⟩) (fun L_174 f_175 H_176 locs hp_177 hw => ?_)
                          obtain ⟨en_179, hWF, kp_180, fk_181⟩ := hp_177
                          have en_179 : TL f_165 f_175 G u v_93.toInt (1 : Int) x_156.toInt := en_179
                          have hR := hR.same (kp_f kp_180 (wt12_18 hG Tu) (by decide) (by decide) (fun _ => by decide)) rfl
                          have hFK := hFK.trans fk_181 (by decide)
                          have hKP := hKP.trans kp_180 (by decide) (by decide)
                          have hr_128 := kp_at kp_180 hWF Tu (by decide) (by decide) (by decide) hr_128
                          have tq_182 := mi_row hr_128 20 rfl
                          have tq_183 := mi_row hr_128 25 rfl
                          have ha_153 := kp_at kp_180 hWF (wt12_18 hG Tu) (by decide) (by decide) (by decide) ha_153
                          refine lv_aload_n G0.1 G0.2.1 dX12_takeValley_126 rfl (lv_at hl 2 rfl) ?_
                          refine lv_iload_n G0.1 G0.2.1 dX12_takeValley_127 rfl (lv_at hl 1 rfl) ?_
                          refine lv_iconst (v := 0) G0.1 G0.2.1 dX12_takeValley_128 (by decide) ?_
                          refine lv_aload_n G0.1 G0.2.1 dX12_takeValley_129 rfl (lv_at hl 2 rfl) ?_
                          refine py_get (C := RX12) (T := TX12) (N := 54) (k := 18) (v := .ref (G.2 u 18)) G0 hw in_X12_takeValley_X12 rfl hr_128 (by decide) (by decide +kernel) rfl dX12_takeValley_130 ?_
                          refine lv_iconst (v := 4) G0.1 G0.2.1 dX12_takeValley_133 (by decide) ?_
                          refine lv_iload_n G0.1 G0.2.1 dX12_takeValley_134 rfl (lv_at hl 1 rfl) ?_
                          refine lv_imul G0.1 G0.2.1 dX12_takeValley_135 ?_
                          refine lv_topi (fun x_184 ex_184 => ?_)
                          first | have tx_184 := ti_muld ex_184 kc4 (by omega -splitDisjunctions) (by omega -splitDisjunctions) | skip
                          have rg_185 : vp_in x_184 40 := ti_in (by omega) (by omega)
                          refine py_iald G0 hw ha_153 rg_185 dX12_takeValley_136 ?_
                          refine lv_topi (fun x_186 ex_186 => ?_)
                          have bx_186 := wf_free x_186
                          have zx_186 := arz_ld ha_153 ex_186
                          have hr2 : 0 ≤ x_186.toInt ∧ x_186.toInt ≤ 20 := by have hr := (hR v_93.toInt (by omega) (by omega)).1; rw [show 4 * v_93.toInt = x_184.toInt by omega, zx_186] at hr; exact hr
                          refine py_callv hw (va_runV (As := [.int v_93, .int 0, .int x_186]) (rest := []) G0 (c_X12_tell l E G L_174 f_175 H_176.size u v_93 0 x_186 hG hWF Tu ⟨by omega, by omega⟩ ⟨by omega, by omega⟩ (show ((0 : Int32).toInt = 0 → 0 ≤ x_186.toInt ∧ x_186.toInt ≤ 20) ∧ ((0 : Int32).toInt = 1 → -1 ≤ x_186.toInt ∧ x_186.toInt ≤ 7) by omega)) (cwV 3 G0.2.2.2.2 g_X12_takeValley_X12_tell_305 rfl rfl rfl (by decide +kernel) ⟨(Nat.le_of_ble_eq_true rfl), (Nat.le_of_ble_eq_true rfl)⟩) (py_preV hw (C := RX12) (T := TX12) (N := 54) rfl hr_128) rfl rfl hl.1 rfl (lv_room (Nat.le_of_ble_eq_true rfl)) dX12_takeValley_137 ⟨(Nat.le_of_ble_eq_true rfl), (Nat.le_of_ble_eq_true rfl)⟩) (fun L_187 f_188 H_189 locs hp_190 hw => ?_)
                          obtain ⟨en_192, hWF, kp_193, fk_194⟩ := hp_190
                          have en_192 : TL f_175 f_188 G u v_93.toInt (0 : Int) x_186.toInt := en_192
                          have hR := hR.same (kp_f kp_193 (wt12_18 hG Tu) (by decide) (by decide) (fun _ => by decide)) rfl
                          have hFK := hFK.trans fk_194 (by decide)
                          have hKP := hKP.trans kp_193 (by decide) (by decide)
                          have hr_128 := kp_at kp_193 hWF Tu (by decide) (by decide) (by decide) hr_128
                          have tq_195 := mi_row hr_128 20 rfl
                          have tq_196 := mi_row hr_128 25 rfl
                          have ha_153 := kp_at kp_193 hWF (wt12_18 hG Tu) (by decide) (by decide) (by decide) ha_153
                          refine lv_aload_n G0.1 G0.2.1 dX12_takeValley_140 rfl (lv_at hl 2 rfl) ?_
                          refine py_get (C := RX12) (T := TX12) (N := 54) (k := 22) (v := .ref (G.2 u 22)) G0 hw in_X12_takeValley_X12 rfl hr_128 (by decide) (by decide +kernel) rfl dX12_takeValley_141 ?_
                          refine lv_iload_n G0.1 G0.2.1 dX12_takeValley_144 rfl (lv_at hl 1 rfl) ?_
                          refine lv_aload_n G0.1 G0.2.1 dX12_takeValley_145 rfl (lv_at hl 2 rfl) ?_
                          refine py_get (C := RX12) (T := TX12) (N := 54) (k := 18) (v := .ref (G.2 u 18)) G0 hw in_X12_takeValley_X12 rfl hr_128 (by decide) (by decide +kernel) rfl dX12_takeValley_146 ?_
                          refine lv_iconst (v := 4) G0.1 G0.2.1 dX12_takeValley_149 (by decide) ?_
                          refine lv_iload_n G0.1 G0.2.1 dX12_takeValley_150 rfl (lv_at hl 1 rfl) ?_
                          refine lv_imul G0.1 G0.2.1 dX12_takeValley_151 ?_
                          refine lv_topi (fun x_197 ex_197 => ?_)
                          first | have tx_197 := ti_muld ex_197 kc4 (by omega -splitDisjunctions) (by omega -splitDisjunctions) | skip
                          refine lv_iconst (v := 2) G0.1 G0.2.1 dX12_takeValley_152 (by decide) ?_
                          refine lv_iadd G0.1 G0.2.1 dX12_takeValley_153 ?_
                          refine lv_topi (fun x_198 ex_198 => ?_)
                          first | have tx_198 := ti_add ex_198 (by omega -splitDisjunctions) (by omega -splitDisjunctions) | skip
                          have rg_199 : vp_in x_198 40 := ti_in (by omega) (by omega)
                          refine py_iald G0 hw ha_153 rg_199 dX12_takeValley_154 ?_
                          refine lv_topi (fun x_200 ex_200 => ?_)
                          have bx_200 := wf_free x_200
                          have zx_200 := arz_ld ha_153 ex_200
                          obtain ⟨g_201, ha_202, hi_203⟩ := wf_arr (n := 10) (lo := (-2147483648)) (hi := 2147483647) hWF (wt12_22 hG Tu) (by decide) (fun _ => rfl)
                          have rg_204 : vp_in v_93 10 := ti_in (by omega) (by omega)
                          refine py_iast G0 hw ha_202 rg_204 dX12_takeValley_155 (fun f_205 H_206 locs h_207 x_208 hw => ?_)
                          have hR := hR.same ((x_208 _ (hWF _ (by rw [(wt12_18 hG Tu)]; decide)).1 (wf_ne (wt12_18 hG Tu) (wt12_22 hG Tu) (by decide))).2) rfl
                          have hFK := hFK.same ((x_208 _ (hWF _ (by rw [Tu]; decide)).1 (wf_ne Tu (wt12_22 hG Tu) (by decide))).2)
                          have hKP := hKP.upd hWF x_208 (wt12_22 hG Tu) (Or.inl (by decide))
                          have hi_209 := wf_inu (k := (v_93 : Int32).toNatClampNeg) (x := x_200) hi_203 (wf_free x_200).1 (wf_free x_200).2
                          have hWF := wf_upd hWF h_207 x_208 (by rw [(wt12_22 hG Tu)]; exact ⟨_, rfl, hi_209⟩)
                          have hr_128 := hr_128.ext x_208 (py_ne_arr hr_128 ha_202)
                          have tq_210 := mi_row hr_128 20 rfl
                          have tq_211 := mi_row hr_128 25 rfl
                          have ha_153 := ha_153.ext x_208 (wf_ne (wt12_18 hG Tu) (wt12_22 hG Tu) (by decide))
                          refine lv_aload_n G0.1 G0.2.1 dX12_takeValley_156 rfl (lv_at hl 2 rfl) ?_
                          refine py_get (C := RX12) (T := TX12) (N := 54) (k := 23) (v := .ref (G.2 u 23)) G0 hw in_X12_takeValley_X12 rfl hr_128 (by decide) (by decide +kernel) rfl dX12_takeValley_157 ?_
                          refine lv_iload_n G0.1 G0.2.1 dX12_takeValley_160 rfl (lv_at hl 1 rfl) ?_
                          refine lv_aload_n G0.1 G0.2.1 dX12_takeValley_161 rfl (lv_at hl 2 rfl) ?_
                          refine py_get (C := RX12) (T := TX12) (N := 54) (k := 18) (v := .ref (G.2 u 18)) G0 hw in_X12_takeValley_X12 rfl hr_128 (by decide) (by decide +kernel) rfl dX12_takeValley_162 ?_
                          refine lv_iconst (v := 4) G0.1 G0.2.1 dX12_takeValley_165 (by decide) ?_
                          refine lv_iload_n G0.1 G0.2.1 dX12_takeValley_166 rfl (lv_at hl 1 rfl) ?_
                          refine lv_imul G0.1 G0.2.1 dX12_takeValley_167 ?_
                          refine lv_topi (fun x_212 ex_212 => ?_)
                          first | have tx_212 := ti_muld ex_212 kc4 (by omega -splitDisjunctions) (by omega -splitDisjunctions) | skip
                          refine lv_iconst (v := 3) G0.1 G0.2.1 dX12_takeValley_168 (by decide) ?_
                          refine lv_iadd G0.1 G0.2.1 dX12_takeValley_169 ?_
                          refine lv_topi (fun x_213 ex_213 => ?_)
                          first | have tx_213 := ti_add ex_213 (by omega -splitDisjunctions) (by omega -splitDisjunctions) | skip
                          have rg_214 : vp_in x_213 40 := ti_in (by omega) (by omega)
                          refine py_iald G0 hw ha_153 rg_214 dX12_takeValley_170 ?_
                          refine lv_topi (fun x_215 ex_215 => ?_)
                          have bx_215 := wf_free x_215
                          have zx_215 := arz_ld ha_153 ex_215
                          obtain ⟨g_216, ha_217, hi_218⟩ := wf_arr (n := 10) (lo := (-2147483648)) (hi := 2147483647) hWF (wt12_23 hG Tu) (by decide) (fun _ => rfl)
                          have rg_219 : vp_in v_93 10 := ti_in (by omega) (by omega)
                          refine py_iast G0 hw ha_217 rg_219 dX12_takeValley_171 (fun f_220 H_221 locs h_222 x_223 hw => ?_)
                          have hR := hR.same ((x_223 _ (hWF _ (by rw [(wt12_18 hG Tu)]; decide)).1 (wf_ne (wt12_18 hG Tu) (wt12_23 hG Tu) (by decide))).2) rfl
                          have hFK := hFK.same ((x_223 _ (hWF _ (by rw [Tu]; decide)).1 (wf_ne Tu (wt12_23 hG Tu) (by decide))).2)
                          have hKP := hKP.upd hWF x_223 (wt12_23 hG Tu) (Or.inl (by decide))
                          have hi_224 := wf_inu (k := (v_93 : Int32).toNatClampNeg) (x := x_215) hi_218 (wf_free x_215).1 (wf_free x_215).2
                          have hWF := wf_upd hWF h_222 x_223 (by rw [(wt12_23 hG Tu)]; exact ⟨_, rfl, hi_224⟩)
                          have hr_128 := hr_128.ext x_223 (py_ne_arr hr_128 ha_217)
                          have tq_225 := mi_row hr_128 20 rfl
                          have tq_226 := mi_row hr_128 25 rfl
                          have h_207 := h_207.ext x_223 (wf_ne (wt12_22 hG Tu) (wt12_23 hG Tu) (by decide))
                          have ha_153 := ha_153.ext x_223 (wf_ne (wt12_18 hG Tu) (wt12_23 hG Tu) (by decide))
                          obtain ⟨x_227, ex_227⟩ : ∃ y : Int32, y = v_93 + 1 := ⟨_, rfl⟩
                          first | have tx_227 := ti_add ex_227 (by omega -splitDisjunctions) (by omega -splitDisjunctions) | skip
                          refine lv_iinc (v := x_227) (lv' := [(1, .int x_227), (2, .int x_156), (0, .ref u)]) G0.1 G0.2.1 dX12_takeValley_172 hl (k := 1) rfl (show _ + (1 : Int32) = _ from ex_227.symm) (by decide) rfl (fun ls hl => ?_)
                          refine lv_goto (tgt := 88) G0.1 G0.2.1 dX12_takeValley_175 (by decide) ?_
                          exact ih_88 ((2147483647 - x_227.toInt).toNat) (by omega) x_227 L_187 f_220 _ _ ls rfl ⟨by omega, by omega⟩ hWF hKP hR hFK (by first | omega | (intros; omega)) hw (lv_sub hl [0, 2] rfl)
                    exact lo_88 _ 0 L_j65 f_j65 _ _ ls rfl ⟨by omega, by omega⟩ hWF hKP hR hFK (by first | omega | (intros; omega)) hw (lv_sub hl [0, 1] rfl)
                  · skip
                    have tc_92 := ti_nle c_92
                    refine lv_aload_n G0.1 G0.2.1 dX12_takeValley_73 rfl (lv_at hl 1 rfl) ?_
                    refine lv_iload_n G0.1 G0.2.1 dX12_takeValley_74 rfl (lv_at hl 0 rfl) ?_
                    refine lv_iconst (v := 1) G0.1 G0.2.1 dX12_takeValley_75 (by decide) ?_
                    refine lv_iconst (v := (-1)) G0.1 G0.2.1 dX12_takeValley_76 (by decide) ?_
                    refine py_callv hw (va_runV (As := [.int v_54, .int 1, .int (-1)]) (rest := []) G0 (c_X12_tell l E G L_j65 f_j65 H_j65.size u v_54 1 (-1) hG hWF Tu ⟨by omega, by omega⟩ ⟨by omega, by omega⟩ (show ((1 : Int32).toInt = 0 → 0 ≤ ((-1) : Int32).toInt ∧ ((-1) : Int32).toInt ≤ 20) ∧ ((1 : Int32).toInt = 1 → -1 ≤ ((-1) : Int32).toInt ∧ ((-1) : Int32).toInt ≤ 7) by omega)) (cwV 3 G0.2.2.2.2 g_X12_takeValley_X12_tell_305 rfl rfl rfl (by decide +kernel) ⟨(Nat.le_of_ble_eq_true rfl), (Nat.le_of_ble_eq_true rfl)⟩) (py_preV hw (C := RX12) (T := TX12) (N := 54) rfl hr_89) rfl rfl hl.1 rfl (lv_room (Nat.le_of_ble_eq_true rfl)) dX12_takeValley_77 ⟨(Nat.le_of_ble_eq_true rfl), (Nat.le_of_ble_eq_true rfl)⟩) (fun L_228 f_229 H_230 locs hp_231 hw => ?_)
                    obtain ⟨en_233, hWF, kp_234, fk_235⟩ := hp_231
                    have en_233 : TL f_j65 f_229 G u v_54.toInt (1 : Int) ((-1) : Int) := en_233
                    have hR := hR.same (kp_f kp_234 (wt12_18 hG Tu) (by decide) (by decide) (fun _ => by decide)) rfl
                    have hFK := hFK.trans fk_235 (by decide)
                    have hKP := hKP.trans kp_234 (by decide) (by decide)
                    have hr_89 := kp_at kp_234 hWF Tu (by decide) (by decide) (by decide) hr_89
                    have tq_236 := mi_row hr_89 20 rfl
                    have tq_237 := mi_row hr_89 25 rfl
                    obtain ⟨x_238, ex_238⟩ : ∃ y : Int32, y = v_54 + 1 := ⟨_, rfl⟩
                    first | have tx_238 := ti_add ex_238 (by omega -splitDisjunctions) (by omega -splitDisjunctions) | skip
                    refine lv_iinc (v := x_238) (lv' := [(1, .int x_238), (0, .ref u)]) G0.1 G0.2.1 dX12_takeValley_80 hl (k := 0) rfl (show _ + (1 : Int32) = _ from ex_238.symm) (by decide) rfl (fun ls hl => ?_)
                    refine lv_goto (tgt := 65) G0.1 G0.2.1 dX12_takeValley_83 (by decide) ?_
                    exact ih_65 ((2147483647 - x_238.toInt).toNat) (by omega) x_238 L_228 f_229 _ _ ls rfl ⟨by omega, by omega⟩ hWF hKP hR hFK (by first | omega | (intros; omega)) hw (lv_sub hl [0, 1] rfl)
              exact lo_65 _ 0 L_j44 f_j44 _ _ ls rfl ⟨by omega, by omega⟩ hWF hKP hR hFK (by first | omega | (intros; omega)) hw (lv_sub hl [0, 1] rfl)
            · skip
              have tc_53 := ti_nle c_53
              refine lv_aload_n G0.1 G0.2.1 dX12_takeValley_50 rfl (lv_at hl 1 rfl) ?_
              obtain ⟨v_239, v_240, v_241, v_242, v_243, v_244, v_245, v_246, v_247, v_248, v_249, v_250, y_251, v_252, v_253, v_254, v_255, v_256, y_257, v_258, y_259, v_260, hr_273, b_261, b_262, b_263, b_264, b_265, b_266, b_267, b_268, b_269, b_270, b_271, b_272⟩ := wg_12 hWF Tu
              have tq_274 := mi_row hr_273 20 rfl
              have tq_275 := mi_row hr_273 25 rfl
              refine py_get (C := RX12) (T := TX12) (N := 54) (k := 26) (v := .ref (G.2 u 26)) G0 hw in_X12_takeValley_X12 rfl hr_273 (by decide) (by decide +kernel) rfl dX12_takeValley_51 ?_
              refine lv_iload_n G0.1 G0.2.1 dX12_takeValley_54 rfl (lv_at hl 0 rfl) ?_
              refine lv_iconst (v := 0) G0.1 G0.2.1 dX12_takeValley_55 (by decide) ?_
              obtain ⟨g_276, ha_277, hi_278⟩ := wf_n55 hWF (wt12_26 hG Tu)
              have rg_279 : vp_in v_52 90 := ti_in (by omega) (by omega)
              refine py_iast G0 hw ha_277 rg_279 dX12_takeValley_56 (fun f_280 H_281 locs h_282 x_283 hw => ?_)
              have hR := hR.same ((x_283 _ (hWF _ (by rw [(wt12_18 hG Tu)]; decide)).1 (wf_ne (wt12_18 hG Tu) (wt12_26 hG Tu) (by decide))).2) rfl
              have hFK := hFK.same ((x_283 _ (hWF _ (by rw [Tu]; decide)).1 (wf_ne Tu (wt12_26 hG Tu) (by decide))).2)
              have hKP := hKP.upd hWF x_283 (wt12_26 hG Tu) (Or.inl (by decide))
              have hi_284 : wf_nw (upd g_276 (v_52 : Int32).toNatClampNeg (0 : Int32)) := (nw_z hi_278)
              have hWF := wf_upd hWF h_282 x_283 (by rw [(wt12_26 hG Tu)]; exact ⟨_, rfl, hi_284⟩)
              have hr_273 := hr_273.ext x_283 (py_ne_arr hr_273 ha_277)
              have tq_285 := mi_row hr_273 20 rfl
              have tq_286 := mi_row hr_273 25 rfl
              obtain ⟨x_287, ex_287⟩ : ∃ y : Int32, y = v_52 + 1 := ⟨_, rfl⟩
              first | have tx_287 := ti_add ex_287 (by omega -splitDisjunctions) (by omega -splitDisjunctions) | skip
              refine lv_iinc (v := x_287) (lv' := [(1, .int x_287), (0, .ref u)]) G0.1 G0.2.1 dX12_takeValley_57 hl (k := 0) rfl (show _ + (1 : Int32) = _ from ex_287.symm) (by decide) rfl (fun ls hl => ?_)
              refine lv_goto (tgt := 44) G0.1 G0.2.1 dX12_takeValley_60 (by decide) ?_
              exact ih_44 ((2147483647 - x_287.toInt).toNat) (by omega) x_287 L_j44 f_280 _ _ ls rfl ⟨by omega, by omega⟩ hWF hKP hR hFK (by first | omega | (intros; omega)) hw (lv_sub hl [0, 1] rfl)
        exact lo_44 _ 0 L_j18 f_j18 _ _ ls rfl ⟨by omega, by omega⟩ hWF hKP hR hFK (by first | omega | (intros; omega)) hw (lv_sub hl [0, 1] rfl)
      · skip
        have tc_51 := ti_nle c_51
        refine lv_aload_n G0.1 G0.2.1 dX12_takeValley_24 rfl (lv_at hl 1 rfl) ?_
        obtain ⟨v_288, v_289, v_290, v_291, v_292, v_293, v_294, v_295, v_296, v_297, v_298, v_299, y_300, v_301, v_302, v_303, v_304, v_305, y_306, v_307, y_308, v_309, hr_322, b_310, b_311, b_312, b_313, b_314, b_315, b_316, b_317, b_318, b_319, b_320, b_321⟩ := wg_12 hWF Tu
        have tq_323 := mi_row hr_322 20 rfl
        have tq_324 := mi_row hr_322 25 rfl
        refine py_get (C := RX12) (T := TX12) (N := 54) (k := 21) (v := .ref (G.2 u 21)) G0 hw in_X12_takeValley_X12 rfl hr_322 (by decide) (by decide +kernel) rfl dX12_takeValley_25 ?_
        refine lv_iload_n G0.1 G0.2.1 dX12_takeValley_28 rfl (lv_at hl 0 rfl) ?_
        refine lv_aload_n G0.1 G0.2.1 dX12_takeValley_29 rfl (lv_at hl 1 rfl) ?_
        refine py_get (C := RX12) (T := TX12) (N := 54) (k := 17) (v := .ref (G.2 u 17)) G0 hw in_X12_takeValley_X12 rfl hr_322 (by decide) (by decide +kernel) rfl dX12_takeValley_30 ?_
        refine lv_iload_n G0.1 G0.2.1 dX12_takeValley_33 rfl (lv_at hl 0 rfl) ?_
        obtain ⟨g_325, ha_326, hi_327⟩ := wf_arr (n := 32) (lo := (-2147483648)) (hi := 2147483647) hWF (wt12_17 hG Tu) (by decide) (fun _ => rfl)
        have rg_328 : vp_in v_50 32 := ti_in (by omega) (by omega)
        refine py_iald G0 hw ha_326 rg_328 dX12_takeValley_34 ?_
        refine lv_topi (fun x_329 ex_329 => ?_)
        have bx_329 := wf_free x_329
        have zx_329 := arz_ld ha_326 ex_329
        obtain ⟨g_330, ha_331, hi_332⟩ := wf_arr (n := 32) (lo := (-2147483648)) (hi := 2147483647) hWF (wt12_21 hG Tu) (by decide) (fun _ => rfl)
        have rg_333 : vp_in v_50 32 := ti_in (by omega) (by omega)
        refine py_iast G0 hw ha_331 rg_333 dX12_takeValley_35 (fun f_334 H_335 locs h_336 x_337 hw => ?_)
        have hR := hR.same ((x_337 _ (hWF _ (by rw [(wt12_18 hG Tu)]; decide)).1 (wf_ne (wt12_18 hG Tu) (wt12_21 hG Tu) (by decide))).2) rfl
        have hFK := hFK.same ((x_337 _ (hWF _ (by rw [Tu]; decide)).1 (wf_ne Tu (wt12_21 hG Tu) (by decide))).2)
        have hKP := hKP.upd hWF x_337 (wt12_21 hG Tu) (Or.inl (by decide))
        have hi_338 := wf_inu (k := (v_50 : Int32).toNatClampNeg) (x := x_329) hi_332 (wf_free x_329).1 (wf_free x_329).2
        have hWF := wf_upd hWF h_336 x_337 (by rw [(wt12_21 hG Tu)]; exact ⟨_, rfl, hi_338⟩)
        have hr_322 := hr_322.ext x_337 (py_ne_arr hr_322 ha_331)
        have tq_339 := mi_row hr_322 20 rfl
        have tq_340 := mi_row hr_322 25 rfl
        have ha_326 := ha_326.ext x_337 (wf_ne (wt12_17 hG Tu) (wt12_21 hG Tu) (by decide))
        obtain ⟨x_341, ex_341⟩ : ∃ y : Int32, y = v_50 + 1 := ⟨_, rfl⟩
        first | have tx_341 := ti_add ex_341 (by omega -splitDisjunctions) (by omega -splitDisjunctions) | skip
        refine lv_iinc (v := x_341) (lv' := [(1, .int x_341), (0, .ref u)]) G0.1 G0.2.1 dX12_takeValley_36 hl (k := 0) rfl (show _ + (1 : Int32) = _ from ex_341.symm) (by decide) rfl (fun ls hl => ?_)
        refine lv_goto (tgt := 18) G0.1 G0.2.1 dX12_takeValley_39 (by decide) ?_
        exact ih_18 ((2147483647 - x_341.toInt).toNat) (by omega) x_341 L_j18 f_334 _ _ ls rfl ⟨by omega, by omega⟩ hWF hKP hR hFK (by first | omega | (intros; omega)) hw (lv_sub hl [0, 1] rfl)
  exact lo_18 _ 0 L f_44 _ _ ls rfl ⟨by omega, by omega⟩ hWF hKP hR hFK (by first | omega | (intros; omega)) hw (lv_sub hl [0, 1] rfl)
