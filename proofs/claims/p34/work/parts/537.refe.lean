theorem dX12_takeValley_0 : decode cX12_takeValley 0 = .ok (.aload_n 0, 1) := by decide +kernel
theorem dX12_takeValley_1 : decode cX12_takeValley 1 = .ok (.aload_n 0, 1) := by decide +kernel
theorem dX12_takeValley_2 : decode cX12_takeValley 2 = .ok (.getfield 264, 3) := by decide +kernel
theorem dX12_takeValley_5 : decode cX12_takeValley 5 = .ok (.putfield 302, 3) := by decide +kernel
theorem dX12_takeValley_8 : decode cX12_takeValley 8 = .ok (.aload_n 0, 1) := by decide +kernel
theorem dX12_takeValley_9 : decode cX12_takeValley 9 = .ok (.aload_n 0, 1) := by decide +kernel
theorem dX12_takeValley_10 : decode cX12_takeValley 10 = .ok (.getfield 267, 3) := by decide +kernel
theorem dX12_takeValley_13 : decode cX12_takeValley 13 = .ok (.putfield 290, 3) := by decide +kernel
theorem dX12_takeValley_16 : decode cX12_takeValley 16 = .ok (.iconst 0, 1) := by decide +kernel
theorem dX12_takeValley_17 : decode cX12_takeValley 17 = .ok (.istore_n 1, 1) := by decide +kernel
theorem dX12_takeValley_18 : decode cX12_takeValley 18 = .ok (.iload_n 1, 1) := by decide +kernel
theorem dX12_takeValley_19 : decode cX12_takeValley 19 = .ok (.bipush 32, 2) := by decide +kernel
theorem dX12_takeValley_21 : decode cX12_takeValley 21 = .ok (.if_icmp .ge 21, 3) := by decide +kernel
theorem dX12_takeValley_24 : decode cX12_takeValley 24 = .ok (.aload_n 0, 1) := by decide +kernel
theorem dX12_takeValley_25 : decode cX12_takeValley 25 = .ok (.getfield 46, 3) := by decide +kernel
theorem dX12_takeValley_28 : decode cX12_takeValley 28 = .ok (.iload_n 1, 1) := by decide +kernel
theorem dX12_takeValley_29 : decode cX12_takeValley 29 = .ok (.aload_n 0, 1) := by decide +kernel
theorem dX12_takeValley_30 : decode cX12_takeValley 30 = .ok (.getfield 40, 3) := by decide +kernel
theorem dX12_takeValley_33 : decode cX12_takeValley 33 = .ok (.iload_n 1, 1) := by decide +kernel
theorem dX12_takeValley_34 : decode cX12_takeValley 34 = .ok (.iaload, 1) := by decide +kernel
theorem dX12_takeValley_35 : decode cX12_takeValley 35 = .ok (.iastore, 1) := by decide +kernel
theorem dX12_takeValley_36 : decode cX12_takeValley 36 = .ok (.iinc 1 1, 3) := by decide +kernel
theorem dX12_takeValley_39 : decode cX12_takeValley 39 = .ok (.goto (-21), 3) := by decide +kernel
theorem dX12_takeValley_42 : decode cX12_takeValley 42 = .ok (.iconst 0, 1) := by decide +kernel
theorem dX12_takeValley_43 : decode cX12_takeValley 43 = .ok (.istore_n 1, 1) := by decide +kernel
theorem dX12_takeValley_44 : decode cX12_takeValley 44 = .ok (.iload_n 1, 1) := by decide +kernel
theorem dX12_takeValley_45 : decode cX12_takeValley 45 = .ok (.bipush 90, 2) := by decide +kernel
theorem dX12_takeValley_47 : decode cX12_takeValley 47 = .ok (.if_icmp .ge 16, 3) := by decide +kernel
theorem dX12_takeValley_50 : decode cX12_takeValley 50 = .ok (.aload_n 0, 1) := by decide +kernel
theorem dX12_takeValley_51 : decode cX12_takeValley 51 = .ok (.getfield 55, 3) := by decide +kernel
theorem dX12_takeValley_54 : decode cX12_takeValley 54 = .ok (.iload_n 1, 1) := by decide +kernel
theorem dX12_takeValley_55 : decode cX12_takeValley 55 = .ok (.iconst 0, 1) := by decide +kernel
theorem dX12_takeValley_56 : decode cX12_takeValley 56 = .ok (.iastore, 1) := by decide +kernel
theorem dX12_takeValley_57 : decode cX12_takeValley 57 = .ok (.iinc 1 1, 3) := by decide +kernel
theorem dX12_takeValley_60 : decode cX12_takeValley 60 = .ok (.goto (-16), 3) := by decide +kernel
theorem dX12_takeValley_63 : decode cX12_takeValley 63 = .ok (.iconst 0, 1) := by decide +kernel
theorem dX12_takeValley_64 : decode cX12_takeValley 64 = .ok (.istore_n 1, 1) := by decide +kernel
theorem dX12_takeValley_65 : decode cX12_takeValley 65 = .ok (.iload_n 1, 1) := by decide +kernel
theorem dX12_takeValley_66 : decode cX12_takeValley 66 = .ok (.aload_n 0, 1) := by decide +kernel
theorem dX12_takeValley_67 : decode cX12_takeValley 67 = .ok (.getfield 290, 3) := by decide +kernel
theorem dX12_takeValley_70 : decode cX12_takeValley 70 = .ok (.if_icmp .ge 16, 3) := by decide +kernel
theorem dX12_takeValley_73 : decode cX12_takeValley 73 = .ok (.aload_n 0, 1) := by decide +kernel
theorem dX12_takeValley_74 : decode cX12_takeValley 74 = .ok (.iload_n 1, 1) := by decide +kernel
theorem dX12_takeValley_75 : decode cX12_takeValley 75 = .ok (.iconst 1, 1) := by decide +kernel
theorem dX12_takeValley_76 : decode cX12_takeValley 76 = .ok (.iconst (-1), 1) := by decide +kernel
theorem dX12_takeValley_77 : decode cX12_takeValley 77 = .ok (.invokevirtual 305, 3) := by decide +kernel
theorem dX12_takeValley_80 : decode cX12_takeValley 80 = .ok (.iinc 1 1, 3) := by decide +kernel
theorem dX12_takeValley_83 : decode cX12_takeValley 83 = .ok (.goto (-18), 3) := by decide +kernel
theorem dX12_takeValley_86 : decode cX12_takeValley 86 = .ok (.iconst 0, 1) := by decide +kernel
theorem dX12_takeValley_87 : decode cX12_takeValley 87 = .ok (.istore_n 1, 1) := by decide +kernel
theorem dX12_takeValley_88 : decode cX12_takeValley 88 = .ok (.iload_n 1, 1) := by decide +kernel
theorem dX12_takeValley_89 : decode cX12_takeValley 89 = .ok (.aload_n 0, 1) := by decide +kernel
theorem dX12_takeValley_90 : decode cX12_takeValley 90 = .ok (.getfield 290, 3) := by decide +kernel
theorem dX12_takeValley_93 : decode cX12_takeValley 93 = .ok (.if_icmp .ge 85, 3) := by decide +kernel
theorem dX12_takeValley_96 : decode cX12_takeValley 96 = .ok (.aload_n 0, 1) := by decide +kernel
theorem dX12_takeValley_97 : decode cX12_takeValley 97 = .ok (.getfield 43, 3) := by decide +kernel
theorem dX12_takeValley_100 : decode cX12_takeValley 100 = .ok (.iconst 4, 1) := by decide +kernel
theorem dX12_takeValley_101 : decode cX12_takeValley 101 = .ok (.iload_n 1, 1) := by decide +kernel
theorem dX12_takeValley_102 : decode cX12_takeValley 102 = .ok (.imul, 1) := by decide +kernel
theorem dX12_takeValley_103 : decode cX12_takeValley 103 = .ok (.iconst 1, 1) := by decide +kernel
theorem dX12_takeValley_104 : decode cX12_takeValley 104 = .ok (.iadd, 1) := by decide +kernel
theorem dX12_takeValley_105 : decode cX12_takeValley 105 = .ok (.iaload, 1) := by decide +kernel
theorem dX12_takeValley_106 : decode cX12_takeValley 106 = .ok (.istore_n 2, 1) := by decide +kernel
theorem dX12_takeValley_107 : decode cX12_takeValley 107 = .ok (.aload_n 0, 1) := by decide +kernel
theorem dX12_takeValley_108 : decode cX12_takeValley 108 = .ok (.iload_n 1, 1) := by decide +kernel
theorem dX12_takeValley_109 : decode cX12_takeValley 109 = .ok (.iconst 2, 1) := by decide +kernel
theorem dX12_takeValley_110 : decode cX12_takeValley 110 = .ok (.aload_n 0, 1) := by decide +kernel
theorem dX12_takeValley_111 : decode cX12_takeValley 111 = .ok (.iload_n 2, 1) := by decide +kernel
theorem dX12_takeValley_112 : decode cX12_takeValley 112 = .ok (.iconst 0, 1) := by decide +kernel
theorem dX12_takeValley_113 : decode cX12_takeValley 113 = .ok (.invokevirtual 299, 3) := by decide +kernel
theorem dX12_takeValley_116 : decode cX12_takeValley 116 = .ok (.invokevirtual 305, 3) := by decide +kernel
theorem dX12_takeValley_119 : decode cX12_takeValley 119 = .ok (.aload_n 0, 1) := by decide +kernel
theorem dX12_takeValley_120 : decode cX12_takeValley 120 = .ok (.iload_n 1, 1) := by decide +kernel
theorem dX12_takeValley_121 : decode cX12_takeValley 121 = .ok (.iconst 1, 1) := by decide +kernel
theorem dX12_takeValley_122 : decode cX12_takeValley 122 = .ok (.iload_n 2, 1) := by decide +kernel
theorem dX12_takeValley_123 : decode cX12_takeValley 123 = .ok (.invokevirtual 305, 3) := by decide +kernel
theorem dX12_takeValley_126 : decode cX12_takeValley 126 = .ok (.aload_n 0, 1) := by decide +kernel
theorem dX12_takeValley_127 : decode cX12_takeValley 127 = .ok (.iload_n 1, 1) := by decide +kernel
theorem dX12_takeValley_128 : decode cX12_takeValley 128 = .ok (.iconst 0, 1) := by decide +kernel
theorem dX12_takeValley_129 : decode cX12_takeValley 129 = .ok (.aload_n 0, 1) := by decide +kernel
theorem dX12_takeValley_130 : decode cX12_takeValley 130 = .ok (.getfield 43, 3) := by decide +kernel
theorem dX12_takeValley_133 : decode cX12_takeValley 133 = .ok (.iconst 4, 1) := by decide +kernel
theorem dX12_takeValley_134 : decode cX12_takeValley 134 = .ok (.iload_n 1, 1) := by decide +kernel
theorem dX12_takeValley_135 : decode cX12_takeValley 135 = .ok (.imul, 1) := by decide +kernel
theorem dX12_takeValley_136 : decode cX12_takeValley 136 = .ok (.iaload, 1) := by decide +kernel
theorem dX12_takeValley_137 : decode cX12_takeValley 137 = .ok (.invokevirtual 305, 3) := by decide +kernel
theorem dX12_takeValley_140 : decode cX12_takeValley 140 = .ok (.aload_n 0, 1) := by decide +kernel
theorem dX12_takeValley_141 : decode cX12_takeValley 141 = .ok (.getfield 49, 3) := by decide +kernel
theorem dX12_takeValley_144 : decode cX12_takeValley 144 = .ok (.iload_n 1, 1) := by decide +kernel
theorem dX12_takeValley_145 : decode cX12_takeValley 145 = .ok (.aload_n 0, 1) := by decide +kernel
theorem dX12_takeValley_146 : decode cX12_takeValley 146 = .ok (.getfield 43, 3) := by decide +kernel
theorem dX12_takeValley_149 : decode cX12_takeValley 149 = .ok (.iconst 4, 1) := by decide +kernel
theorem dX12_takeValley_150 : decode cX12_takeValley 150 = .ok (.iload_n 1, 1) := by decide +kernel
theorem dX12_takeValley_151 : decode cX12_takeValley 151 = .ok (.imul, 1) := by decide +kernel
theorem dX12_takeValley_152 : decode cX12_takeValley 152 = .ok (.iconst 2, 1) := by decide +kernel
theorem dX12_takeValley_153 : decode cX12_takeValley 153 = .ok (.iadd, 1) := by decide +kernel
theorem dX12_takeValley_154 : decode cX12_takeValley 154 = .ok (.iaload, 1) := by decide +kernel
theorem dX12_takeValley_155 : decode cX12_takeValley 155 = .ok (.iastore, 1) := by decide +kernel
theorem dX12_takeValley_156 : decode cX12_takeValley 156 = .ok (.aload_n 0, 1) := by decide +kernel
theorem dX12_takeValley_157 : decode cX12_takeValley 157 = .ok (.getfield 52, 3) := by decide +kernel
theorem dX12_takeValley_160 : decode cX12_takeValley 160 = .ok (.iload_n 1, 1) := by decide +kernel
theorem dX12_takeValley_161 : decode cX12_takeValley 161 = .ok (.aload_n 0, 1) := by decide +kernel
theorem dX12_takeValley_162 : decode cX12_takeValley 162 = .ok (.getfield 43, 3) := by decide +kernel
theorem dX12_takeValley_165 : decode cX12_takeValley 165 = .ok (.iconst 4, 1) := by decide +kernel
theorem dX12_takeValley_166 : decode cX12_takeValley 166 = .ok (.iload_n 1, 1) := by decide +kernel
theorem dX12_takeValley_167 : decode cX12_takeValley 167 = .ok (.imul, 1) := by decide +kernel
theorem dX12_takeValley_168 : decode cX12_takeValley 168 = .ok (.iconst 3, 1) := by decide +kernel
theorem dX12_takeValley_169 : decode cX12_takeValley 169 = .ok (.iadd, 1) := by decide +kernel
theorem dX12_takeValley_170 : decode cX12_takeValley 170 = .ok (.iaload, 1) := by decide +kernel
theorem dX12_takeValley_171 : decode cX12_takeValley 171 = .ok (.iastore, 1) := by decide +kernel
theorem dX12_takeValley_172 : decode cX12_takeValley 172 = .ok (.iinc 1 1, 3) := by decide +kernel
theorem dX12_takeValley_175 : decode cX12_takeValley 175 = .ok (.goto (-87), 3) := by decide +kernel
theorem dX12_takeValley_178 : decode cX12_takeValley 178 = .ok (.aload_n 0, 1) := by decide +kernel
theorem dX12_takeValley_179 : decode cX12_takeValley 179 = .ok (.iconst 0, 1) := by decide +kernel
theorem dX12_takeValley_180 : decode cX12_takeValley 180 = .ok (.putfield 309, 3) := by decide +kernel
theorem dX12_takeValley_183 : decode cX12_takeValley 183 = .ok (.aload_n 0, 1) := by decide +kernel
theorem dX12_takeValley_184 : decode cX12_takeValley 184 = .ok (.iconst 0, 1) := by decide +kernel
theorem dX12_takeValley_185 : decode cX12_takeValley 185 = .ok (.putfield 312, 3) := by decide +kernel
theorem dX12_takeValley_188 : decode cX12_takeValley 188 = .ok (.aload_n 0, 1) := by decide +kernel
theorem dX12_takeValley_189 : decode cX12_takeValley 189 = .ok (.iconst 0, 1) := by decide +kernel
theorem dX12_takeValley_190 : decode cX12_takeValley 190 = .ok (.putfield 315, 3) := by decide +kernel
theorem dX12_takeValley_193 : decode cX12_takeValley 193 = .ok (.aload_n 0, 1) := by decide +kernel
theorem dX12_takeValley_194 : decode cX12_takeValley 194 = .ok (.getfield 290, 3) := by decide +kernel
theorem dX12_takeValley_197 : decode cX12_takeValley 197 = .ok (.ireturn, 1) := by decide +kernel
def w_X12_takeValley : List Cond := .code yX12_takeValley cX12_takeValley 3 (some .int) :: ([Cond.fieldLink RX12 264 "HeadYearModel" "readLevels" "I", Cond.fieldLink RX12 302 "HeadYearModel" "levels" "I", Cond.fieldLink RX12 267 "HeadYearModel" "readFamilies" "I", Cond.fieldLink RX12 290 "HeadYearModel" "families" "I", Cond.fieldLink RX12 309 "HeadYearModel" "years" "I", Cond.fieldLink RX12 312 "HeadYearModel" "buys" "I", Cond.fieldLink RX12 315 "HeadYearModel" "hasImage" "Z", Cond.fieldLink RX12 43 "HeadYearModel" "readFamily" "[I", Cond.methodLink RX12 299 yX12_emptyHut, Cond.instanceMethod yX12_emptyHut, Cond.selects RX12 yX12_emptyHut yX12_emptyHut, Cond.initialized RX12, Cond.methodLink RX12 305 yX12_tell, Cond.instanceMethod yX12_tell, Cond.selects RX12 yX12_tell yX12_tell, Cond.fieldLink RX12 49 "HeadYearModel" "birth" "[I", Cond.fieldLink RX12 52 "HeadYearModel" "twin" "[I", Cond.fieldLink RX12 55 "HeadYearModel" "now" "[I", Cond.fieldLink RX12 46 "HeadYearModel" "levelRow" "[I", Cond.fieldLink RX12 40 "HeadYearModel" "readLevel" "[I"] ++ (u_ws RX12 TX12 54 ++ (w_X12_emptyHut ++ (w_X12_tell ++ ([])))))
theorem in_X12_takeValley_X12 : ∀ w ∈ u_ws RX12 TX12 54, w ∈ w_X12_takeValley := fun _ h => List.mem_cons_of_mem _ (List.mem_append_right _ (List.mem_append_left _ h))
theorem gg_X12_takeValley_X12_emptyHut : GoodIn w_X12_takeValley w_X12_emptyHut := goodIn_sub (fun _ h => List.mem_cons_of_mem _ (List.mem_append_right _ (List.mem_append_right _ (List.mem_append_left _ h)))) (by decide +kernel)
theorem gg_X12_takeValley_X12_tell : GoodIn w_X12_takeValley w_X12_tell := goodIn_sub (fun _ h => List.mem_cons_of_mem _ (List.mem_append_right _ (List.mem_append_right _ (List.mem_append_right _ (List.mem_append_left _ h))))) (by decide +kernel)
theorem g_X12_takeValley_X12_emptyHut_299 : GoodIn w_X12_takeValley (wsV RX12 299 RX12 yX12_emptyHut w_X12_emptyHut) := goodIn_app (goodIn_of _ (by decide +kernel)) gg_X12_takeValley_X12_emptyHut
theorem g_X12_takeValley_X12_tell_305 : GoodIn w_X12_takeValley (wsV RX12 305 RX12 yX12_tell w_X12_tell) := goodIn_app (goodIn_of _ (by decide +kernel)) gg_X12_takeValley_X12_tell
set_option maxHeartbeats 4000000 in
set_option maxRecDepth 100000 in
theorem c_X12_takeValley (l : Launch) (E : py_E) (G : wf_G) (L : List Nat) (f : py_F) (sz : Nat) (u : Nat) (hG : GT G) (hWF : WF E G L f) (Tu : G.1 u = 13) (hq0 : RFm f G u (mi f u 20)) : Met l yX12_takeValley w_X12_takeValley ({ frames := 3, cells := 0, slots := 0, locals := 69 }) (py_Pc E [.ref u] L f sz) (py_Qi E L f sz (fun r L1 f1 => (r.toInt = mi f u 20) ∧ (mi f1 u 29 = 0 ∧ mi f1 u 53 = 0 ∧ mi f1 u 25 = mi f u 20) ∧ WF E G L1 f1 ∧ KP G [52, 55, 53, 54, 13] false f f1 ∧ FK [24, 25, 29, 43, 53] f f1 u)) 0 0 (va_A (va_pl L f) sz) := by
  refine Met.ofW (cc := cX12_takeValley) (maxL := 3) (ret := (some .int)) (by decide) rfl ?_
  intro p e s m args below meth c s₁ B hml hv
  obtain ⟨rfl, rfl, hw⟩ := py_start hv
  have G0 : CallFix p m c cX12_takeValley 3 s _ w_X12_takeValley RX12 := ⟨B.exec, B.bytes, hml, findClass_of_methodNamed B.named, atoms_spec (ws := w_X12_takeValley) B.pre⟩
  have hr := B.returns
  have hlk := B.notSynchronized
  have kcm1 : (-1 : Int32).toInt = -1 := rfl
  have kc0 : (0 : Int32).toInt = 0 := rfl
  have kc1 : (1 : Int32).toInt = 1 := rfl
  have kc2 : (2 : Int32).toInt = 2 := rfl
  have kc3 : (3 : Int32).toInt = 3 := rfl
  have kc4 : (4 : Int32).toInt = 4 := rfl
  have kc32 : (32 : Int32).toInt = 32 := rfl
  have kc90 : (90 : Int32).toInt = 90 := rfl
  have hl := lv_entry ([.ref u]) (n := 3) (Nat.le_of_ble_eq_true rfl)
  rw [lg_entry_eq]
  generalize (lg_sl ([.ref u]) ++ List.replicate (3 - (lg_sl ([.ref u])).length) Slot.unset).toArray = ls at hl ⊢
  have hl : lv_has ls 3 [(0, .ref u)] := hl
  have hFK : FK [24, 25, 29, 43, 53] f f u := FK.refl
  have hKP : KP G [52, 55, 53, 54, 13] false f f := KP.refl
  have hR := hq0
  refine lv_aload_n G0.1 G0.2.1 dX12_takeValley_0 rfl (lv_at hl 0 rfl) ?_
  refine lv_aload_n G0.1 G0.2.1 dX12_takeValley_1 rfl (lv_at hl 0 rfl) ?_
  obtain ⟨v_1, v_2, v_3, v_4, v_5, v_6, v_7, v_8, v_9, v_10, v_11, v_12, y_13, v_14, v_15, v_16, v_17, v_18, y_19, v_20, y_21, v_22, hr_35, b_23, b_24, b_25, b_26, b_27, b_28, b_29, b_30, b_31, b_32, b_33, b_34⟩ := wg_12 hWF Tu
  have tq_36 := mi_row hr_35 20 rfl
  have tq_37 := mi_row hr_35 25 rfl
  have tq_38 := mi_row hr_35 29 rfl
  have tq_39 := mi_row hr_35 53 rfl
  refine py_get (C := RX12) (T := TX12) (N := 54) (k := 19) (v := .int v_8) G0 hw in_X12_takeValley_X12 rfl hr_35 (by decide) (by decide +kernel) rfl dX12_takeValley_2 ?_
  refine py_put (C := RX12) (T := TX12) (N := 54) (k := 24) (v := .int v_8) (fs' := [.int v_1, .ref (G.2 u 1), .int v_2, .int v_3, .int v_4, .int v_5, .ref (G.2 u 6), .ref (G.2 u 7), .ref (G.2 u 8), .ref (G.2 u 9), .ref (G.2 u 10), .ref (G.2 u 11), .ref (G.2 u 12), .int v_6, .int v_7, .ref (G.2 u 15), .ref (G.2 u 16), .ref (G.2 u 17), .ref (G.2 u 18), .int v_8, .int v_9, .ref (G.2 u 21), .ref (G.2 u 22), .ref (G.2 u 23), .int v_8, .int v_11, .ref (G.2 u 26), .ref (G.2 u 27), .ref (G.2 u 28), .int v_12, .long y_13, .int v_14, .int v_15, .int v_16, .int v_17, .ref (G.2 u 35), .ref (G.2 u 36), .ref (G.2 u 37), .ref (G.2 u 38), .ref (G.2 u 39), .ref (G.2 u 40), .ref (G.2 u 41), .ref (G.2 u 42), .int v_18, .ref (G.2 u 44), .ref (G.2 u 45), .ref (G.2 u 46), .ref (G.2 u 47), .long y_19, .ref (G.2 u 49), .ref (G.2 u 50), .int v_20, .long y_21, .int v_22]) (ty0 := tyX12) G0 hw tyX12_ok nmX12 in_X12_takeValley_X12 rfl hr_35 (by decide) (by decide +kernel) rfl rfl rfl rfl (Nat.le_of_ble_eq_true rfl) rfl dX12_takeValley_5 (fun f_40 H_41 locs h_42 x_43 hw => ?_)
  have hR := hR.same ((x_43 _ (hWF _ (by rw [(wt12_18 hG Tu)]; decide)).1 (wf_ne (wt12_18 hG Tu) Tu (by decide))).2) rfl
  have hFK := hFK.put hr_35 h_42 24 (by decide) rfl
  have hKP := hKP.upd hWF x_43 Tu (Or.inl (by decide))
  have hWF := wf_upd hWF h_42 x_43 (by rw [Tu]; exact ⟨v_1, v_2, v_3, v_4, v_5, v_6, v_7, v_8, v_9, v_8, v_11, v_12, y_13, v_14, v_15, v_16, v_17, v_18, y_19, v_20, y_21, v_22, rfl, ⟨by omega, by omega⟩, ⟨by omega, by omega⟩, ⟨by omega, by omega⟩, ⟨by omega, by omega⟩, ⟨by omega, by omega⟩, ⟨by omega, by omega⟩, ⟨by omega, by omega⟩, ⟨by omega, by omega⟩, ⟨by omega, by omega⟩, ⟨by omega, by omega⟩, ⟨by omega, by omega⟩, ⟨by omega, by omega⟩⟩)
  have tq_44 := mi_row h_42 20 rfl
  have tq_45 := mi_row h_42 25 rfl
  have tq_46 := mi_row h_42 29 rfl
  have tq_47 := mi_row h_42 53 rfl
  refine lv_aload_n G0.1 G0.2.1 dX12_takeValley_8 rfl (lv_at hl 0 rfl) ?_
  refine lv_aload_n G0.1 G0.2.1 dX12_takeValley_9 rfl (lv_at hl 0 rfl) ?_
  refine py_get (C := RX12) (T := TX12) (N := 54) (k := 20) (v := .int v_9) G0 hw in_X12_takeValley_X12 rfl h_42 (by decide) (by decide +kernel) rfl dX12_takeValley_10 ?_
  refine py_put (C := RX12) (T := TX12) (N := 54) (k := 25) (v := .int v_9) (fs' := [.int v_1, .ref (G.2 u 1), .int v_2, .int v_3, .int v_4, .int v_5, .ref (G.2 u 6), .ref (G.2 u 7), .ref (G.2 u 8), .ref (G.2 u 9), .ref (G.2 u 10), .ref (G.2 u 11), .ref (G.2 u 12), .int v_6, .int v_7, .ref (G.2 u 15), .ref (G.2 u 16), .ref (G.2 u 17), .ref (G.2 u 18), .int v_8, .int v_9, .ref (G.2 u 21), .ref (G.2 u 22), .ref (G.2 u 23), .int v_8, .int v_9, .ref (G.2 u 26), .ref (G.2 u 27), .ref (G.2 u 28), .int v_12, .long y_13, .int v_14, .int v_15, .int v_16, .int v_17, .ref (G.2 u 35), .ref (G.2 u 36), .ref (G.2 u 37), .ref (G.2 u 38), .ref (G.2 u 39), .ref (G.2 u 40), .ref (G.2 u 41), .ref (G.2 u 42), .int v_18, .ref (G.2 u 44), .ref (G.2 u 45), .ref (G.2 u 46), .ref (G.2 u 47), .long y_19, .ref (G.2 u 49), .ref (G.2 u 50), .int v_20, .long y_21, .int v_22]) (ty0 := tyX12) G0 hw tyX12_ok nmX12 in_X12_takeValley_X12 rfl h_42 (by decide) (by decide +kernel) rfl rfl rfl rfl (Nat.le_of_ble_eq_true rfl) rfl dX12_takeValley_13 (fun f_48 H_49 locs h_50 x_51 hw => ?_)
  have hR := hR.same ((x_51 _ (hWF _ (by rw [(wt12_18 hG Tu)]; decide)).1 (wf_ne (wt12_18 hG Tu) Tu (by decide))).2) rfl
  have hFK := hFK.put h_42 h_50 25 (by decide) rfl
  have hKP := hKP.upd hWF x_51 Tu (Or.inl (by decide))
  have hWF := wf_upd hWF h_50 x_51 (by rw [Tu]; exact ⟨v_1, v_2, v_3, v_4, v_5, v_6, v_7, v_8, v_9, v_8, v_9, v_12, y_13, v_14, v_15, v_16, v_17, v_18, y_19, v_20, y_21, v_22, rfl, ⟨by omega, by omega⟩, ⟨by omega, by omega⟩, ⟨by omega, by omega⟩, ⟨by omega, by omega⟩, ⟨by omega, by omega⟩, ⟨by omega, by omega⟩, ⟨by omega, by omega⟩, ⟨by omega, by omega⟩, ⟨by omega, by omega⟩, ⟨by omega, by omega⟩, ⟨by omega, by omega⟩, ⟨by omega, by omega⟩⟩)
  have tq_52 := mi_row h_50 20 rfl
  have tq_53 := mi_row h_50 25 rfl
  have tq_54 := mi_row h_50 29 rfl
  have tq_55 := mi_row h_50 53 rfl
  refine lv_iconst (v := 0) G0.1 G0.2.1 dX12_takeValley_16 (by decide) ?_
  refine lv_istore_n (lv' := [(1, .int 0), (0, .ref u)]) G0.1 G0.2.1 dX12_takeValley_17 rfl hl (by decide) rfl (fun ls hl => ?_)
  have lo_18 : ∀ n_18 : Nat, ∀ (v_56 : Int32) (L_j18 : List Nat) (f_j18 : py_F) (H_j18 : Heap) (locs : List Loc) (ls : Array Slot), (2147483647 - v_56.toInt).toNat = n_18 → (0 ≤ v_56.toInt ∧ v_56.toInt ≤ 2147483647) → WF E G L_j18 f_j18 → KP G [52, 55, 53, 54, 13] false f f_j18 → RFm f_j18 G u (mi f u 20) → FK [24, 25, 29, 43, 53] f f_j18 u → (mi f_j18 u 25 = mi f u 20) → py_W E (va_A (va_pl L f) s.heap.size) s L_j18 f_j18 H_j18 locs → lv_has ls 3 [(1, .int v_56), (0, .ref u)] → W p l e (headSpec w_X12_takeValley ({ frames := 3, cells := 0, slots := 0, locals := 69 })).room s m ([.ref u] : List Value).toArray below meth c H_j18 locs 0 0 (MQ below (py_Qi E L f s.heap.size (fun r L1 f1 => (r.toInt = mi f u 20) ∧ (mi f1 u 29 = 0 ∧ mi f1 u 53 = 0 ∧ mi f1 u 25 = mi f u 20) ∧ WF E G L1 f1 ∧ KP G [52, 55, 53, 54, 13] false f f1 ∧ FK [24, 25, 29, 43, 53] f f1 u)) ([.ref u] : List Value).toArray s 0 0 (va_A (va_pl L f) s.heap.size)) (F0 m 18 ls []) := by
    intro n_18
    induction n_18 using Nat.strongRecOn with
    | _ n_18 ih_18 =>
      intro v_56 L_j18 f_j18 H_j18 locs ls hn_18 bv_56 hWF hKP hR hFK iv0 hw hl
      refine lv_iload_n G0.1 G0.2.1 dX12_takeValley_18 rfl (lv_at hl 0 rfl) ?_
      refine lv_bipush (v := 32) G0.1 G0.2.1 dX12_takeValley_19 (by decide) ?_
      refine lv_icmp_ge (tgt := 42) G0.1 G0.2.1 dX12_takeValley_21 (by decide) (fun c_57 => ?_) (fun c_57 => ?_)
      · skip
        have tc_57 := ti_le c_57
        refine lv_iconst (v := 0) G0.1 G0.2.1 dX12_takeValley_42 (by decide) ?_
        refine lv_istore_n (lv' := [(1, .int 0), (0, .ref u)]) G0.1 G0.2.1 dX12_takeValley_43 rfl hl (by decide) rfl (fun ls hl => ?_)
        have lo_44 : ∀ n_44 : Nat, ∀ (v_58 : Int32) (L_j44 : List Nat) (f_j44 : py_F) (H_j44 : Heap) (locs : List Loc) (ls : Array Slot), (2147483647 - v_58.toInt).toNat = n_44 → (0 ≤ v_58.toInt ∧ v_58.toInt ≤ 2147483647) → WF E G L_j44 f_j44 → KP G [52, 55, 53, 54, 13] false f f_j44 → RFm f_j44 G u (mi f u 20) → FK [24, 25, 29, 43, 53] f f_j44 u → (mi f_j44 u 25 = mi f u 20) → py_W E (va_A (va_pl L f) s.heap.size) s L_j44 f_j44 H_j44 locs → lv_has ls 3 [(1, .int v_58), (0, .ref u)] → W p l e (headSpec w_X12_takeValley ({ frames := 3, cells := 0, slots := 0, locals := 69 })).room s m ([.ref u] : List Value).toArray below meth c H_j44 locs 0 0 (MQ below (py_Qi E L f s.heap.size (fun r L1 f1 => (r.toInt = mi f u 20) ∧ (mi f1 u 29 = 0 ∧ mi f1 u 53 = 0 ∧ mi f1 u 25 = mi f u 20) ∧ WF E G L1 f1 ∧ KP G [52, 55, 53, 54, 13] false f f1 ∧ FK [24, 25, 29, 43, 53] f f1 u)) ([.ref u] : List Value).toArray s 0 0 (va_A (va_pl L f) s.heap.size)) (F0 m 44 ls []) := by
          intro n_44
          induction n_44 using Nat.strongRecOn with
          | _ n_44 ih_44 =>
            intro v_58 L_j44 f_j44 H_j44 locs ls hn_44 bv_58 hWF hKP hR hFK iv0 hw hl
            refine lv_iload_n G0.1 G0.2.1 dX12_takeValley_44 rfl (lv_at hl 0 rfl) ?_
            refine lv_bipush (v := 90) G0.1 G0.2.1 dX12_takeValley_45 (by decide) ?_
            refine lv_icmp_ge (tgt := 63) G0.1 G0.2.1 dX12_takeValley_47 (by decide) (fun c_59 => ?_) (fun c_59 => ?_)
            · skip
              have tc_59 := ti_le c_59
              refine lv_iconst (v := 0) G0.1 G0.2.1 dX12_takeValley_63 (by decide) ?_
              refine lv_istore_n (lv' := [(1, .int 0), (0, .ref u)]) G0.1 G0.2.1 dX12_takeValley_64 rfl hl (by decide) rfl (fun ls hl => ?_)
              have lo_65 : ∀ n_65 : Nat, ∀ (v_60 : Int32) (L_j65 : List Nat) (f_j65 : py_F) (H_j65 : Heap) (locs : List Loc) (ls : Array Slot), (2147483647 - v_60.toInt).toNat = n_65 → (0 ≤ v_60.toInt ∧ v_60.toInt ≤ 2147483647) → WF E G L_j65 f_j65 → KP G [52, 55, 53, 54, 13] false f f_j65 → RFm f_j65 G u (mi f u 20) → FK [24, 25, 29, 43, 53] f f_j65 u → (mi f_j65 u 25 = mi f u 20) → py_W E (va_A (va_pl L f) s.heap.size) s L_j65 f_j65 H_j65 locs → lv_has ls 3 [(1, .int v_60), (0, .ref u)] → W p l e (headSpec w_X12_takeValley ({ frames := 3, cells := 0, slots := 0, locals := 69 })).room s m ([.ref u] : List Value).toArray below meth c H_j65 locs 0 0 (MQ below (py_Qi E L f s.heap.size (fun r L1 f1 => (r.toInt = mi f u 20) ∧ (mi f1 u 29 = 0 ∧ mi f1 u 53 = 0 ∧ mi f1 u 25 = mi f u 20) ∧ WF E G L1 f1 ∧ KP G [52, 55, 53, 54, 13] false f f1 ∧ FK [24, 25, 29, 43, 53] f f1 u)) ([.ref u] : List Value).toArray s 0 0 (va_A (va_pl L f) s.heap.size)) (F0 m 65 ls []) := by
                intro n_65
                induction n_65 using Nat.strongRecOn with
                | _ n_65 ih_65 =>
                  intro v_60 L_j65 f_j65 H_j65 locs ls hn_65 bv_60 hWF hKP hR hFK iv0 hw hl
                  refine lv_iload_n G0.1 G0.2.1 dX12_takeValley_65 rfl (lv_at hl 0 rfl) ?_
                  refine lv_aload_n G0.1 G0.2.1 dX12_takeValley_66 rfl (lv_at hl 1 rfl) ?_
                  obtain ⟨v_61, v_62, v_63, v_64, v_65, v_66, v_67, v_68, v_69, v_70, v_71, v_72, y_73, v_74, v_75, v_76, v_77, v_78, y_79, v_80, y_81, v_82, hr_95, b_83, b_84, b_85, b_86, b_87, b_88, b_89, b_90, b_91, b_92, b_93, b_94⟩ := wg_12 hWF Tu
                  have tq_96 := mi_row hr_95 20 rfl
                  have tq_97 := mi_row hr_95 25 rfl
                  have tq_98 := mi_row hr_95 29 rfl
                  have tq_99 := mi_row hr_95 53 rfl
                  refine py_get (C := RX12) (T := TX12) (N := 54) (k := 25) (v := .int v_71) G0 hw in_X12_takeValley_X12 rfl hr_95 (by decide) (by decide +kernel) rfl dX12_takeValley_67 ?_
                  refine lv_icmp_ge (tgt := 86) G0.1 G0.2.1 dX12_takeValley_70 (by decide) (fun c_100 => ?_) (fun c_100 => ?_)
                  · skip
                    have tc_100 := ti_le c_100
                    refine lv_iconst (v := 0) G0.1 G0.2.1 dX12_takeValley_86 (by decide) ?_
                    refine lv_istore_n (lv' := [(1, .int 0), (0, .ref u)]) G0.1 G0.2.1 dX12_takeValley_87 rfl hl (by decide) rfl (fun ls hl => ?_)
                    have lo_88 : ∀ n_88 : Nat, ∀ (v_101 : Int32) (L_j88 : List Nat) (f_j88 : py_F) (H_j88 : Heap) (locs : List Loc) (ls : Array Slot), (2147483647 - v_101.toInt).toNat = n_88 → (0 ≤ v_101.toInt ∧ v_101.toInt ≤ 2147483647) → WF E G L_j88 f_j88 → KP G [52, 55, 53, 54, 13] false f f_j88 → RFm f_j88 G u (mi f u 20) → FK [24, 25, 29, 43, 53] f f_j88 u → (mi f_j88 u 25 = mi f u 20) → py_W E (va_A (va_pl L f) s.heap.size) s L_j88 f_j88 H_j88 locs → lv_has ls 3 [(1, .int v_101), (0, .ref u)] → W p l e (headSpec w_X12_takeValley ({ frames := 3, cells := 0, slots := 0, locals := 69 })).room s m ([.ref u] : List Value).toArray below meth c H_j88 locs 0 0 (MQ below (py_Qi E L f s.heap.size (fun r L1 f1 => (r.toInt = mi f u 20) ∧ (mi f1 u 29 = 0 ∧ mi f1 u 53 = 0 ∧ mi f1 u 25 = mi f u 20) ∧ WF E G L1 f1 ∧ KP G [52, 55, 53, 54, 13] false f f1 ∧ FK [24, 25, 29, 43, 53] f f1 u)) ([.ref u] : List Value).toArray s 0 0 (va_A (va_pl L f) s.heap.size)) (F0 m 88 ls []) := by
                      intro n_88
                      induction n_88 using Nat.strongRecOn with
                      | _ n_88 ih_88 =>
                        intro v_101 L_j88 f_j88 H_j88 locs ls hn_88 bv_101 hWF hKP hR hFK iv0 hw hl
                        refine lv_iload_n G0.1 G0.2.1 dX12_takeValley_88 rfl (lv_at hl 0 rfl) ?_
                        refine lv_aload_n G0.1 G0.2.1 dX12_takeValley_89 rfl (lv_at hl 1 rfl) ?_
                        obtain ⟨v_102, v_103, v_104, v_105, v_106, v_107, v_108, v_109, v_110, v_111, v_112, v_113, y_114, v_115, v_116, v_117, v_118, v_119, y_120, v_121, y_122, v_123, hr_136, b_124, b_125, b_126, b_127, b_128, b_129, b_130, b_131, b_132, b_133, b_134, b_135⟩ := wg_12 hWF Tu
                        have tq_137 := mi_row hr_136 20 rfl
                        have tq_138 := mi_row hr_136 25 rfl
                        have tq_139 := mi_row hr_136 29 rfl
                        have tq_140 := mi_row hr_136 53 rfl
                        refine py_get (C := RX12) (T := TX12) (N := 54) (k := 25) (v := .int v_112) G0 hw in_X12_takeValley_X12 rfl hr_136 (by decide) (by decide +kernel) rfl dX12_takeValley_90 ?_
                        refine lv_icmp_ge (tgt := 178) G0.1 G0.2.1 dX12_takeValley_93 (by decide) (fun c_141 => ?_) (fun c_141 => ?_)
                        · skip
                          have tc_141 := ti_le c_141
                          refine lv_aload_n G0.1 G0.2.1 dX12_takeValley_178 rfl (lv_at hl 1 rfl) ?_
                          refine lv_iconst (v := 0) G0.1 G0.2.1 dX12_takeValley_179 (by decide) ?_
                          refine py_put (C := RX12) (T := TX12) (N := 54) (k := 29) (v := .int 0) (fs' := [.int v_102, .ref (G.2 u 1), .int v_103, .int v_104, .int v_105, .int v_106, .ref (G.2 u 6), .ref (G.2 u 7), .ref (G.2 u 8), .ref (G.2 u 9), .ref (G.2 u 10), .ref (G.2 u 11), .ref (G.2 u 12), .int v_107, .int v_108, .ref (G.2 u 15), .ref (G.2 u 16), .ref (G.2 u 17), .ref (G.2 u 18), .int v_109, .int v_110, .ref (G.2 u 21), .ref (G.2 u 22), .ref (G.2 u 23), .int v_111, .int v_112, .ref (G.2 u 26), .ref (G.2 u 27), .ref (G.2 u 28), .int 0, .long y_114, .int v_115, .int v_116, .int v_117, .int v_118, .ref (G.2 u 35), .ref (G.2 u 36), .ref (G.2 u 37), .ref (G.2 u 38), .ref (G.2 u 39), .ref (G.2 u 40), .ref (G.2 u 41), .ref (G.2 u 42), .int v_119, .ref (G.2 u 44), .ref (G.2 u 45), .ref (G.2 u 46), .ref (G.2 u 47), .long y_120, .ref (G.2 u 49), .ref (G.2 u 50), .int v_121, .long y_122, .int v_123]) (ty0 := tyX12) G0 hw tyX12_ok nmX12 in_X12_takeValley_X12 rfl hr_136 (by decide) (by decide +kernel) rfl rfl rfl rfl (Nat.le_of_ble_eq_true rfl) rfl dX12_takeValley_180 (fun f_142 H_143 locs h_144 x_145 hw => ?_)
                          have hR := hR.same ((x_145 _ (hWF _ (by rw [(wt12_18 hG Tu)]; decide)).1 (wf_ne (wt12_18 hG Tu) Tu (by decide))).2) rfl
                          have hFK := hFK.put hr_136 h_144 29 (by decide) rfl
                          have hKP := hKP.upd hWF x_145 Tu (Or.inl (by decide))
                          have hWF := wf_upd hWF h_144 x_145 (by rw [Tu]; exact ⟨v_102, v_103, v_104, v_105, v_106, v_107, v_108, v_109, v_110, v_111, v_112, 0, y_114, v_115, v_116, v_117, v_118, v_119, y_120, v_121, y_122, v_123, rfl, ⟨by omega, by omega⟩, ⟨by omega, by omega⟩, ⟨by omega, by omega⟩, ⟨by omega, by omega⟩, ⟨by omega, by omega⟩, ⟨by omega, by omega⟩, ⟨by omega, by omega⟩, ⟨by omega, by omega⟩, ⟨by omega, by omega⟩, ⟨by omega, by omega⟩, ⟨by omega, by omega⟩, ⟨by omega, by omega⟩⟩)
                          have tq_146 := mi_row h_144 20 rfl
                          have tq_147 := mi_row h_144 25 rfl
                          have tq_148 := mi_row h_144 29 rfl
                          have tq_149 := mi_row h_144 53 rfl
                          refine lv_aload_n G0.1 G0.2.1 dX12_takeValley_183 rfl (lv_at hl 1 rfl) ?_
                          refine lv_iconst (v := 0) G0.1 G0.2.1 dX12_takeValley_184 (by decide) ?_
                          refine py_put (C := RX12) (T := TX12) (N := 54) (k := 43) (v := .int 0) (fs' := [.int v_102, .ref (G.2 u 1), .int v_103, .int v_104, .int v_105, .int v_106, .ref (G.2 u 6), .ref (G.2 u 7), .ref (G.2 u 8), .ref (G.2 u 9), .ref (G.2 u 10), .ref (G.2 u 11), .ref (G.2 u 12), .int v_107, .int v_108, .ref (G.2 u 15), .ref (G.2 u 16), .ref (G.2 u 17), .ref (G.2 u 18), .int v_109, .int v_110, .ref (G.2 u 21), .ref (G.2 u 22), .ref (G.2 u 23), .int v_111, .int v_112, .ref (G.2 u 26), .ref (G.2 u 27), .ref (G.2 u 28), .int 0, .long y_114, .int v_115, .int v_116, .int v_117, .int v_118, .ref (G.2 u 35), .ref (G.2 u 36), .ref (G.2 u 37), .ref (G.2 u 38), .ref (G.2 u 39), .ref (G.2 u 40), .ref (G.2 u 41), .ref (G.2 u 42), .int 0, .ref (G.2 u 44), .ref (G.2 u 45), .ref (G.2 u 46), .ref (G.2 u 47), .long y_120, .ref (G.2 u 49), .ref (G.2 u 50), .int v_121, .long y_122, .int v_123]) (ty0 := tyX12) G0 hw tyX12_ok nmX12 in_X12_takeValley_X12 rfl h_144 (by decide) (by decide +kernel) rfl rfl rfl rfl (Nat.le_of_ble_eq_true rfl) rfl dX12_takeValley_185 (fun f_150 H_151 locs h_152 x_153 hw => ?_)
                          have hR := hR.same ((x_153 _ (hWF _ (by rw [(wt12_18 hG Tu)]; decide)).1 (wf_ne (wt12_18 hG Tu) Tu (by decide))).2) rfl
                          have hFK := hFK.put h_144 h_152 43 (by decide) rfl
                          have hKP := hKP.upd hWF x_153 Tu (Or.inl (by decide))
                          have hWF := wf_upd hWF h_152 x_153 (by rw [Tu]; exact ⟨v_102, v_103, v_104, v_105, v_106, v_107, v_108, v_109, v_110, v_111, v_112, 0, y_114, v_115, v_116, v_117, v_118, 0, y_120, v_121, y_122, v_123, rfl, ⟨by omega, by omega⟩, ⟨by omega, by omega⟩, ⟨by omega, by omega⟩, ⟨by omega, by omega⟩, ⟨by omega, by omega⟩, ⟨by omega, by omega⟩, ⟨by omega, by omega⟩, ⟨by omega, by omega⟩, ⟨by omega, by omega⟩, ⟨by omega, by omega⟩, ⟨by omega, by omega⟩, ⟨by omega, by omega⟩⟩)
                          have tq_154 := mi_row h_152 20 rfl
                          have tq_155 := mi_row h_152 25 rfl
                          have tq_156 := mi_row h_152 29 rfl
                          have tq_157 := mi_row h_152 53 rfl
                          refine lv_aload_n G0.1 G0.2.1 dX12_takeValley_188 rfl (lv_at hl 1 rfl) ?_
                          refine lv_iconst (v := 0) G0.1 G0.2.1 dX12_takeValley_189 (by decide) ?_
                          refine py_put (C := RX12) (T := TX12) (N := 54) (k := 53) (v := .int 0) (fs' := [.int v_102, .ref (G.2 u 1), .int v_103, .int v_104, .int v_105, .int v_106, .ref (G.2 u 6), .ref (G.2 u 7), .ref (G.2 u 8), .ref (G.2 u 9), .ref (G.2 u 10), .ref (G.2 u 11), .ref (G.2 u 12), .int v_107, .int v_108, .ref (G.2 u 15), .ref (G.2 u 16), .ref (G.2 u 17), .ref (G.2 u 18), .int v_109, .int v_110, .ref (G.2 u 21), .ref (G.2 u 22), .ref (G.2 u 23), .int v_111, .int v_112, .ref (G.2 u 26), .ref (G.2 u 27), .ref (G.2 u 28), .int 0, .long y_114, .int v_115, .int v_116, .int v_117, .int v_118, .ref (G.2 u 35), .ref (G.2 u 36), .ref (G.2 u 37), .ref (G.2 u 38), .ref (G.2 u 39), .ref (G.2 u 40), .ref (G.2 u 41), .ref (G.2 u 42), .int 0, .ref (G.2 u 44), .ref (G.2 u 45), .ref (G.2 u 46), .ref (G.2 u 47), .long y_120, .ref (G.2 u 49), .ref (G.2 u 50), .int v_121, .long y_122, .int 0]) (ty0 := tyX12) G0 hw tyX12_ok nmX12 in_X12_takeValley_X12 rfl h_152 (by decide) (by decide +kernel) rfl rfl rfl rfl (Nat.le_of_ble_eq_true rfl) rfl dX12_takeValley_190 (fun f_158 H_159 locs h_160 x_161 hw => ?_)
                          have hR := hR.same ((x_161 _ (hWF _ (by rw [(wt12_18 hG Tu)]; decide)).1 (wf_ne (wt12_18 hG Tu) Tu (by decide))).2) rfl
                          have hFK := hFK.put h_152 h_160 53 (by decide) rfl
                          have hKP := hKP.upd hWF x_161 Tu (Or.inl (by decide))
                          have hWF := wf_upd hWF h_160 x_161 (by rw [Tu]; exact ⟨v_102, v_103, v_104, v_105, v_106, v_107, v_108, v_109, v_110, v_111, v_112, 0, y_114, v_115, v_116, v_117, v_118, 0, y_120, v_121, y_122, 0, rfl, ⟨by omega, by omega⟩, ⟨by omega, by omega⟩, ⟨by omega, by omega⟩, ⟨by omega, by omega⟩, ⟨by omega, by omega⟩, ⟨by omega, by omega⟩, ⟨by omega, by omega⟩, ⟨by omega, by omega⟩, ⟨by omega, by omega⟩, ⟨by omega, by omega⟩, ⟨by omega, by omega⟩, ⟨by omega, by omega⟩⟩)
                          have tq_162 := mi_row h_160 20 rfl
                          have tq_163 := mi_row h_160 25 rfl
                          have tq_164 := mi_row h_160 29 rfl
                          have tq_165 := mi_row h_160 53 rfl
                          refine lv_aload_n G0.1 G0.2.1 dX12_takeValley_193 rfl (lv_at hl 1 rfl) ?_
                          refine py_get (C := RX12) (T := TX12) (N := 54) (k := 25) (v := .int v_112) G0 hw in_X12_takeValley_X12 rfl h_160 (by decide) (by decide +kernel) rfl dX12_takeValley_194 ?_
                          exact py_iret G0 hr rfl hlk hw ⟨(by first | omega | (intro q; omega)), (by first | omega | (intro q; omega)), hWF, hKP, hFK⟩ dX12_takeValley_197
                        · skip
                          have tc_141 := ti_nle c_141
                          refine lv_aload_n G0.1 G0.2.1 dX12_takeValley_96 rfl (lv_at hl 1 rfl) ?_
                          refine py_get (C := RX12) (T := TX12) (N := 54) (k := 18) (v := .ref (G.2 u 18)) G0 hw in_X12_takeValley_X12 rfl hr_136 (by decide) (by decide +kernel) rfl dX12_takeValley_97 ?_
                          refine lv_iconst (v := 4) G0.1 G0.2.1 dX12_takeValley_100 (by decide) ?_
                          refine lv_iload_n G0.1 G0.2.1 dX12_takeValley_101 rfl (lv_at hl 0 rfl) ?_
                          refine lv_imul G0.1 G0.2.1 dX12_takeValley_102 ?_
                          refine lv_topi (fun x_166 ex_166 => ?_)
                          first | have tx_166 := ti_muld ex_166 kc4 (by omega -splitDisjunctions) (by omega -splitDisjunctions) | skip
                          refine lv_iconst (v := 1) G0.1 G0.2.1 dX12_takeValley_103 (by decide) ?_
                          refine lv_iadd G0.1 G0.2.1 dX12_takeValley_104 ?_
                          refine lv_topi (fun x_167 ex_167 => ?_)
                          first | have tx_167 := ti_add ex_167 (by omega -splitDisjunctions) (by omega -splitDisjunctions) | skip
                          obtain ⟨g_168, ha_169, hi_170⟩ := wf_arr (n := 40) (lo := (-2147483648)) (hi := 2147483647) hWF (wt12_18 hG Tu) (by decide) (fun _ => rfl)
                          have rg_171 : vp_in x_167 40 := ti_in (by omega) (by omega)
                          refine py_iald G0 hw ha_169 rg_171 dX12_takeValley_105 ?_
                          refine lv_topi (fun x_172 ex_172 => ?_)
                          have bx_172 := wf_free x_172
                          have zx_172 := arz_ld ha_169 ex_172
                          have hr1 : 0 ≤ x_172.toInt ∧ x_172.toInt ≤ 7 := by have hr := (hR v_101.toInt (by omega) (by omega)).2; rw [show 4 * v_101.toInt + 1 = x_167.toInt by omega, zx_172] at hr; exact hr
                          refine lv_istore_n (lv' := [(2, .int x_172), (1, .int v_101), (0, .ref u)]) G0.1 G0.2.1 dX12_takeValley_106 rfl hl (by decide) rfl (fun ls hl => ?_)
                          refine lv_aload_n G0.1 G0.2.1 dX12_takeValley_107 rfl (lv_at hl 2 rfl) ?_
                          refine lv_iload_n G0.1 G0.2.1 dX12_takeValley_108 rfl (lv_at hl 1 rfl) ?_
                          refine lv_iconst (v := 2) G0.1 G0.2.1 dX12_takeValley_109 (by decide) ?_
                          refine lv_aload_n G0.1 G0.2.1 dX12_takeValley_110 rfl (lv_at hl 2 rfl) ?_
                          refine lv_iload_n G0.1 G0.2.1 dX12_takeValley_111 rfl (lv_at hl 0 rfl) ?_
                          refine lv_iconst (v := 0) G0.1 G0.2.1 dX12_takeValley_112 (by decide) ?_
                          refine py_calli hw (va_runV (As := [.int x_172, .int 0]) (rest := [.int 2, .int v_101, .ref u]) G0 (c_X12_emptyHut l E G L_j88 f_j88 H_j88.size u x_172 0 hG hWF Tu ⟨by omega, by omega⟩) (cwV 2 G0.2.2.2.2 g_X12_takeValley_X12_emptyHut_299 rfl rfl rfl (by decide +kernel) ⟨(Nat.le_of_ble_eq_true rfl), (Nat.le_of_ble_eq_true rfl)⟩) (py_preV hw (C := RX12) (T := TX12) (N := 54) rfl hr_136) rfl rfl hl.1 rfl (lv_room (Nat.le_of_ble_eq_true rfl)) dX12_takeValley_113 ⟨(Nat.le_of_ble_eq_true rfl), (Nat.le_of_ble_eq_true rfl)⟩) (fun r_177 L_173 f_174 H_175 locs hp_176 hw => ?_)
                          obtain ⟨en_178, en_179, rfl, rfl⟩ := hp_176
                          have en_178 : r_177.toInt = -1 → (0 : Int) = 0 → ¬ EH f_j88 G u x_172.toInt := en_178
                          have en_179 : r_177.toInt ≠ -1 → EH f_j88 G u x_172.toInt ∧ (0 : Int) ≤ r_177.toInt ∧ r_177.toInt < lr f_j88 G u x_172.toInt 0 ∧ r_177.toInt < 2147483647 := en_179
                          have br_177 := wf_free r_177
                          refine py_callv hw (va_runV (As := [.int v_101, .int 2, .int r_177]) (rest := []) G0 (c_X12_tell l E G L_j88 f_j88 H_175.size u v_101 2 r_177 hG hWF Tu ⟨by omega, by omega⟩ ⟨by omega, by omega⟩ (show ((2 : Int32).toInt = 0 → 0 ≤ r_177.toInt ∧ r_177.toInt ≤ 20) ∧ ((2 : Int32).toInt = 1 → -1 ≤ r_177.toInt ∧ r_177.toInt ≤ 7) by omega)) (cwV 3 G0.2.2.2.2 g_X12_takeValley_X12_tell_305 rfl rfl rfl (by decide +kernel) ⟨(Nat.le_of_ble_eq_true rfl), (Nat.le_of_ble_eq_true rfl)⟩) (py_preV hw (C := RX12) (T := TX12) (N := 54) rfl hr_136) rfl rfl hl.1 rfl (lv_room (Nat.le_of_ble_eq_true rfl)) dX12_takeValley_116 ⟨(Nat.le_of_ble_eq_true rfl), (Nat.le_of_ble_eq_true rfl)⟩) (fun L_180 f_181 H_182 locs hp_183 hw => ?_)
                          obtain ⟨en_185, hWF, kp_186, fk_187⟩ := hp_183
                          have en_185 : TL f_j88 f_181 G u v_101.toInt (2 : Int) r_177.toInt := en_185
                          have hR := hR.same (kp_f kp_186 (wt12_18 hG Tu) (by decide) (by decide) (fun _ => by decide)) rfl
                          have hFK := hFK.trans fk_187 (by decide)
                          have hKP := hKP.trans kp_186 (by decide) (by decide)
                          have hr_136 := kp_at kp_186 hWF Tu (by decide) (by decide) (by decide) hr_136
                          have tq_188 := mi_row hr_136 20 rfl
                          have tq_189 := mi_row hr_136 25 rfl
                          have tq_190 := mi_row hr_136 29 rfl
                          have tq_191 := mi_row hr_136 53 rfl
                          have ha_169 := kp_at kp_186 hWF (wt12_18 hG Tu) (by decide) (by decide) (by decide) ha_169
                          refine lv_aload_n G0.1 G0.2.1 dX12_takeValley_119 rfl (lv_at hl 2 rfl) ?_
                          refine lv_iload_n G0.1 G0.2.1 dX12_takeValley_120 rfl (lv_at hl 1 rfl) ?_
                          refine lv_iconst (v := 1) G0.1 G0.2.1 dX12_takeValley_121 (by decide) ?_
                          refine lv_iload_n G0.1 G0.2.1 dX12_takeValley_122 rfl (lv_at hl 0 rfl) ?_
                          refine py_callv hw (va_runV (As := [.int v_101, .int 1, .int x_172]) (rest := []) G0 (c_X12_tell l E G L_180 f_181 H_182.size u v_101 1 x_172 hG hWF Tu ⟨by omega, by omega⟩ ⟨by omega, by omega⟩ (show ((1 : Int32).toInt = 0 → 0 ≤ x_172.toInt ∧ x_172.toInt ≤ 20) ∧ ((1 : Int32).toInt = 1 → -1 ≤ x_172.toInt ∧ x_172.toInt ≤ 7) by omega)) (cwV 3 G0.2.2.2.2 g_X12_takeValley_X12_tell_305 rfl rfl rfl (by decide +kernel) ⟨(Nat.le_of_ble_eq_true rfl), (Nat.le_of_ble_eq_true rfl)⟩) (py_preV hw (C := RX12) (T := TX12) (N := 54) rfl hr_136) rfl rfl hl.1 rfl (lv_room (Nat.le_of_ble_eq_true rfl)) dX12_takeValley_123 ⟨(Nat.le_of_ble_eq_true rfl), (Nat.le_of_ble_eq_true rfl)⟩) (fun L_192 f_193 H_194 locs hp_195 hw => ?_)
                          obtain ⟨en_197, hWF, kp_198, fk_199⟩ := hp_195
                          have en_197 : TL f_181 f_193 G u v_101.toInt (1 : Int) x_172.toInt := en_197
                          have hR := hR.same (kp_f kp_198 (wt12_18 hG Tu) (by decide) (by decide) (fun _ => by decide)) rfl
                          have hFK := hFK.trans fk_199 (by decide)
                          have hKP := hKP.trans kp_198 (by decide) (by decide)
                          have hr_136 := kp_at kp_198 hWF Tu (by decide) (by decide) (by decide) hr_136
                          have tq_200 := mi_row hr_136 20 rfl
                          have tq_201 := mi_row hr_136 25 rfl
                          have tq_202 := mi_row hr_136 29 rfl
                          have tq_203 := mi_row hr_136 53 rfl
                          have ha_169 := kp_at kp_198 hWF (wt12_18 hG Tu) (by decide) (by decide) (by decide) ha_169
                          refine lv_aload_n G0.1 G0.2.1 dX12_takeValley_126 rfl (lv_at hl 2 rfl) ?_
                          refine lv_iload_n G0.1 G0.2.1 dX12_takeValley_127 rfl (lv_at hl 1 rfl) ?_
                          refine lv_iconst (v := 0) G0.1 G0.2.1 dX12_takeValley_128 (by decide) ?_
                          refine lv_aload_n G0.1 G0.2.1 dX12_takeValley_129 rfl (lv_at hl 2 rfl) ?_
                          refine py_get (C := RX12) (T := TX12) (N := 54) (k := 18) (v := .ref (G.2 u 18)) G0 hw in_X12_takeValley_X12 rfl hr_136 (by decide) (by decide +kernel) rfl dX12_takeValley_130 ?_
                          refine lv_iconst (v := 4) G0.1 G0.2.1 dX12_takeValley_133 (by decide) ?_
                          refine lv_iload_n G0.1 G0.2.1 dX12_takeValley_134 rfl (lv_at hl 1 rfl) ?_
                          refine lv_imul G0.1 G0.2.1 dX12_takeValley_135 ?_
                          refine lv_topi (fun x_204 ex_204 => ?_)
                          first | have tx_204 := ti_muld ex_204 kc4 (by omega -splitDisjunctions) (by omega -splitDisjunctions) | skip
                          have rg_205 : vp_in x_204 40 := ti_in (by omega) (by omega)
                          refine py_iald G0 hw ha_169 rg_205 dX12_takeValley_136 ?_
                          refine lv_topi (fun x_206 ex_206 => ?_)
                          have bx_206 := wf_free x_206
                          have zx_206 := arz_ld ha_169 ex_206
                          have hr2 : 0 ≤ x_206.toInt ∧ x_206.toInt ≤ 20 := by have hr := (hR v_101.toInt (by omega) (by omega)).1; rw [show 4 * v_101.toInt = x_204.toInt by omega, zx_206] at hr; exact hr
                          refine py_callv hw (va_runV (As := [.int v_101, .int 0, .int x_206]) (rest := []) G0 (c_X12_tell l E G L_192 f_193 H_194.size u v_101 0 x_206 hG hWF Tu ⟨by omega, by omega⟩ ⟨by omega, by omega⟩ (show ((0 : Int32).toInt = 0 → 0 ≤ x_206.toInt ∧ x_206.toInt ≤ 20) ∧ ((0 : Int32).toInt = 1 → -1 ≤ x_206.toInt ∧ x_206.toInt ≤ 7) by omega)) (cwV 3 G0.2.2.2.2 g_X12_takeValley_X12_tell_305 rfl rfl rfl (by decide +kernel) ⟨(Nat.le_of_ble_eq_true rfl), (Nat.le_of_ble_eq_true rfl)⟩) (py_preV hw (C := RX12) (T := TX12) (N := 54) rfl hr_136) rfl rfl hl.1 rfl (lv_room (Nat.le_of_ble_eq_true rfl)) dX12_takeValley_137 ⟨(Nat.le_of_ble_eq_true rfl), (Nat.le_of_ble_eq_true rfl)⟩) (fun L_207 f_208 H_209 locs hp_210 hw => ?_)
                          obtain ⟨en_212, hWF, kp_213, fk_214⟩ := hp_210
                          have en_212 : TL f_193 f_208 G u v_101.toInt (0 : Int) x_206.toInt := en_212
                          have hR := hR.same (kp_f kp_213 (wt12_18 hG Tu) (by decide) (by decide) (fun _ => by decide)) rfl
                          have hFK := hFK.trans fk_214 (by decide)
                          have hKP := hKP.trans kp_213 (by decide) (by decide)
                          have hr_136 := kp_at kp_213 hWF Tu (by decide) (by decide) (by decide) hr_136
                          have tq_215 := mi_row hr_136 20 rfl
                          have tq_216 := mi_row hr_136 25 rfl
                          have tq_217 := mi_row hr_136 29 rfl
                          have tq_218 := mi_row hr_136 53 rfl
                          have ha_169 := kp_at kp_213 hWF (wt12_18 hG Tu) (by decide) (by decide) (by decide) ha_169
                          refine lv_aload_n G0.1 G0.2.1 dX12_takeValley_140 rfl (lv_at hl 2 rfl) ?_
                          refine py_get (C := RX12) (T := TX12) (N := 54) (k := 22) (v := .ref (G.2 u 22)) G0 hw in_X12_takeValley_X12 rfl hr_136 (by decide) (by decide +kernel) rfl dX12_takeValley_141 ?_
                          refine lv_iload_n G0.1 G0.2.1 dX12_takeValley_144 rfl (lv_at hl 1 rfl) ?_
                          refine lv_aload_n G0.1 G0.2.1 dX12_takeValley_145 rfl (lv_at hl 2 rfl) ?_
                          refine py_get (C := RX12) (T := TX12) (N := 54) (k := 18) (v := .ref (G.2 u 18)) G0 hw in_X12_takeValley_X12 rfl hr_136 (by decide) (by decide +kernel) rfl dX12_takeValley_146 ?_
                          refine lv_iconst (v := 4) G0.1 G0.2.1 dX12_takeValley_149 (by decide) ?_
                          refine lv_iload_n G0.1 G0.2.1 dX12_takeValley_150 rfl (lv_at hl 1 rfl) ?_
                          refine lv_imul G0.1 G0.2.1 dX12_takeValley_151 ?_
                          refine lv_topi (fun x_219 ex_219 => ?_)
                          first | have tx_219 := ti_muld ex_219 kc4 (by omega -splitDisjunctions) (by omega -splitDisjunctions) | skip
                          refine lv_iconst (v := 2) G0.1 G0.2.1 dX12_takeValley_152 (by decide) ?_
                          refine lv_iadd G0.1 G0.2.1 dX12_takeValley_153 ?_
                          refine lv_topi (fun x_220 ex_220 => ?_)
                          first | have tx_220 := ti_add ex_220 (by omega -splitDisjunctions) (by omega -splitDisjunctions) | skip
                          have rg_221 : vp_in x_220 40 := ti_in (by omega) (by omega)
                          refine py_iald G0 hw ha_169 rg_221 dX12_takeValley_154 ?_
                          refine lv_topi (fun x_222 ex_222 => ?_)
                          have bx_222 := wf_free x_222
                          have zx_222 := arz_ld ha_169 ex_222
                          obtain ⟨g_223, ha_224, hi_225⟩ := wf_arr (n := 10) (lo := (-2147483648)) (hi := 2147483647) hWF (wt12_22 hG Tu) (by decide) (fun _ => rfl)
                          have rg_226 : vp_in v_101 10 := ti_in (by omega) (by omega)
                          refine py_iast G0 hw ha_224 rg_226 dX12_takeValley_155 (fun f_227 H_228 locs h_229 x_230 hw => ?_)
                          have hR := hR.same ((x_230 _ (hWF _ (by rw [(wt12_18 hG Tu)]; decide)).1 (wf_ne (wt12_18 hG Tu) (wt12_22 hG Tu) (by decide))).2) rfl
                          have hFK := hFK.same ((x_230 _ (hWF _ (by rw [Tu]; decide)).1 (wf_ne Tu (wt12_22 hG Tu) (by decide))).2)
                          have hKP := hKP.upd hWF x_230 (wt12_22 hG Tu) (Or.inl (by decide))
                          have hi_231 := wf_inu (k := (v_101 : Int32).toNatClampNeg) (x := x_222) hi_225 (wf_free x_222).1 (wf_free x_222).2
                          have hWF := wf_upd hWF h_229 x_230 (by rw [(wt12_22 hG Tu)]; exact ⟨_, rfl, hi_231⟩)
                          have hr_136 := hr_136.ext x_230 (py_ne_arr hr_136 ha_224)
                          have tq_232 := mi_row hr_136 20 rfl
                          have tq_233 := mi_row hr_136 25 rfl
                          have tq_234 := mi_row hr_136 29 rfl
                          have tq_235 := mi_row hr_136 53 rfl
                          have ha_169 := ha_169.ext x_230 (wf_ne (wt12_18 hG Tu) (wt12_22 hG Tu) (by decide))
                          refine lv_aload_n G0.1 G0.2.1 dX12_takeValley_156 rfl (lv_at hl 2 rfl) ?_
                          refine py_get (C := RX12) (T := TX12) (N := 54) (k := 23) (v := .ref (G.2 u 23)) G0 hw in_X12_takeValley_X12 rfl hr_136 (by decide) (by decide +kernel) rfl dX12_takeValley_157 ?_
                          refine lv_iload_n G0.1 G0.2.1 dX12_takeValley_160 rfl (lv_at hl 1 rfl) ?_
                          refine lv_aload_n G0.1 G0.2.1 dX12_takeValley_161 rfl (lv_at hl 2 rfl) ?_
                          refine py_get (C := RX12) (T := TX12) (N := 54) (k := 18) (v := .ref (G.2 u 18)) G0 hw in_X12_takeValley_X12 rfl hr_136 (by decide) (by decide +kernel) rfl dX12_takeValley_162 ?_
                          refine lv_iconst (v := 4) G0.1 G0.2.1 dX12_takeValley_165 (by decide) ?_
                          refine lv_iload_n G0.1 G0.2.1 dX12_takeValley_166 rfl (lv_at hl 1 rfl) ?_
                          refine lv_imul G0.1 G0.2.1 dX12_takeValley_167 ?_
                          refine lv_topi (fun x_236 ex_236 => ?_)
                          first | have tx_236 := ti_muld ex_236 kc4 (by omega -splitDisjunctions) (by omega -splitDisjunctions) | skip
                          refine lv_iconst (v := 3) G0.1 G0.2.1 dX12_takeValley_168 (by decide) ?_
                          refine lv_iadd G0.1 G0.2.1 dX12_takeValley_169 ?_
                          refine lv_topi (fun x_237 ex_237 => ?_)
                          first | have tx_237 := ti_add ex_237 (by omega -splitDisjunctions) (by omega -splitDisjunctions) | skip
                          have rg_238 : vp_in x_237 40 := ti_in (by omega) (by omega)
                          refine py_iald G0 hw ha_169 rg_238 dX12_takeValley_170 ?_
                          refine lv_topi (fun x_239 ex_239 => ?_)
                          have bx_239 := wf_free x_239
                          have zx_239 := arz_ld ha_169 ex_239
                          obtain ⟨g_240, ha_241, hi_242⟩ := wf_arr (n := 10) (lo := (-2147483648)) (hi := 2147483647) hWF (wt12_23 hG Tu) (by decide) (fun _ => rfl)
                          have rg_243 : vp_in v_101 10 := ti_in (by omega) (by omega)
                          refine py_iast G0 hw ha_241 rg_243 dX12_takeValley_171 (fun f_244 H_245 locs h_246 x_247 hw => ?_)
                          have hR := hR.same ((x_247 _ (hWF _ (by rw [(wt12_18 hG Tu)]; decide)).1 (wf_ne (wt12_18 hG Tu) (wt12_23 hG Tu) (by decide))).2) rfl
                          have hFK := hFK.same ((x_247 _ (hWF _ (by rw [Tu]; decide)).1 (wf_ne Tu (wt12_23 hG Tu) (by decide))).2)
                          have hKP := hKP.upd hWF x_247 (wt12_23 hG Tu) (Or.inl (by decide))
                          have hi_248 := wf_inu (k := (v_101 : Int32).toNatClampNeg) (x := x_239) hi_242 (wf_free x_239).1 (wf_free x_239).2
                          have hWF := wf_upd hWF h_246 x_247 (by rw [(wt12_23 hG Tu)]; exact ⟨_, rfl, hi_248⟩)
                          have hr_136 := hr_136.ext x_247 (py_ne_arr hr_136 ha_241)
                          have tq_249 := mi_row hr_136 20 rfl
                          have tq_250 := mi_row hr_136 25 rfl
                          have tq_251 := mi_row hr_136 29 rfl
                          have tq_252 := mi_row hr_136 53 rfl
                          have h_229 := h_229.ext x_247 (wf_ne (wt12_22 hG Tu) (wt12_23 hG Tu) (by decide))
                          have ha_169 := ha_169.ext x_247 (wf_ne (wt12_18 hG Tu) (wt12_23 hG Tu) (by decide))
                          obtain ⟨x_253, ex_253⟩ : ∃ y : Int32, y = v_101 + 1 := ⟨_, rfl⟩
                          first | have tx_253 := ti_add ex_253 (by omega -splitDisjunctions) (by omega -splitDisjunctions) | skip
                          refine lv_iinc (v := x_253) (lv' := [(1, .int x_253), (2, .int x_172), (0, .ref u)]) G0.1 G0.2.1 dX12_takeValley_172 hl (k := 1) rfl (show _ + (1 : Int32) = _ from ex_253.symm) (by decide) rfl (fun ls hl => ?_)
                          refine lv_goto (tgt := 88) G0.1 G0.2.1 dX12_takeValley_175 (by decide) ?_
                          exact ih_88 ((2147483647 - x_253.toInt).toNat) (by omega) x_253 L_207 f_244 _ _ ls rfl ⟨by omega, by omega⟩ hWF hKP hR hFK (by first | omega | (intros; omega)) hw (lv_sub hl [0, 2] rfl)
                    exact lo_88 _ 0 L_j65 f_j65 _ _ ls rfl ⟨by omega, by omega⟩ hWF hKP hR hFK (by first | omega | (intros; omega)) hw (lv_sub hl [0, 1] rfl)
                  · skip
                    have tc_100 := ti_nle c_100
                    refine lv_aload_n G0.1 G0.2.1 dX12_takeValley_73 rfl (lv_at hl 1 rfl) ?_
                    refine lv_iload_n G0.1 G0.2.1 dX12_takeValley_74 rfl (lv_at hl 0 rfl) ?_
                    refine lv_iconst (v := 1) G0.1 G0.2.1 dX12_takeValley_75 (by decide) ?_
                    refine lv_iconst (v := (-1)) G0.1 G0.2.1 dX12_takeValley_76 (by decide) ?_
                    refine py_callv hw (va_runV (As := [.int v_60, .int 1, .int (-1)]) (rest := []) G0 (c_X12_tell l E G L_j65 f_j65 H_j65.size u v_60 1 (-1) hG hWF Tu ⟨by omega, by omega⟩ ⟨by omega, by omega⟩ (show ((1 : Int32).toInt = 0 → 0 ≤ ((-1) : Int32).toInt ∧ ((-1) : Int32).toInt ≤ 20) ∧ ((1 : Int32).toInt = 1 → -1 ≤ ((-1) : Int32).toInt ∧ ((-1) : Int32).toInt ≤ 7) by omega)) (cwV 3 G0.2.2.2.2 g_X12_takeValley_X12_tell_305 rfl rfl rfl (by decide +kernel) ⟨(Nat.le_of_ble_eq_true rfl), (Nat.le_of_ble_eq_true rfl)⟩) (py_preV hw (C := RX12) (T := TX12) (N := 54) rfl hr_95) rfl rfl hl.1 rfl (lv_room (Nat.le_of_ble_eq_true rfl)) dX12_takeValley_77 ⟨(Nat.le_of_ble_eq_true rfl), (Nat.le_of_ble_eq_true rfl)⟩) (fun L_254 f_255 H_256 locs hp_257 hw => ?_)
                    obtain ⟨en_259, hWF, kp_260, fk_261⟩ := hp_257
                    have en_259 : TL f_j65 f_255 G u v_60.toInt (1 : Int) ((-1) : Int) := en_259
                    have hR := hR.same (kp_f kp_260 (wt12_18 hG Tu) (by decide) (by decide) (fun _ => by decide)) rfl
                    have hFK := hFK.trans fk_261 (by decide)
                    have hKP := hKP.trans kp_260 (by decide) (by decide)
                    have hr_95 := kp_at kp_260 hWF Tu (by decide) (by decide) (by decide) hr_95
                    have tq_262 := mi_row hr_95 20 rfl
                    have tq_263 := mi_row hr_95 25 rfl
                    have tq_264 := mi_row hr_95 29 rfl
                    have tq_265 := mi_row hr_95 53 rfl
                    obtain ⟨x_266, ex_266⟩ : ∃ y : Int32, y = v_60 + 1 := ⟨_, rfl⟩
                    first | have tx_266 := ti_add ex_266 (by omega -splitDisjunctions) (by omega -splitDisjunctions) | skip
                    refine lv_iinc (v := x_266) (lv' := [(1, .int x_266), (0, .ref u)]) G0.1 G0.2.1 dX12_takeValley_80 hl (k := 0) rfl (show _ + (1 : Int32) = _ from ex_266.symm) (by decide) rfl (fun ls hl => ?_)
                    refine lv_goto (tgt := 65) G0.1 G0.2.1 dX12_takeValley_83 (by decide) ?_
                    exact ih_65 ((2147483647 - x_266.toInt).toNat) (by omega) x_266 L_254 f_255 _ _ ls rfl ⟨by omega, by omega⟩ hWF hKP hR hFK (by first | omega | (intros; omega)) hw (lv_sub hl [0, 1] rfl)
              exact lo_65 _ 0 L_j44 f_j44 _ _ ls rfl ⟨by omega, by omega⟩ hWF hKP hR hFK (by first | omega | (intros; omega)) hw (lv_sub hl [0, 1] rfl)
            · skip
              have tc_59 := ti_nle c_59
              refine lv_aload_n G0.1 G0.2.1 dX12_takeValley_50 rfl (lv_at hl 1 rfl) ?_
              obtain ⟨v_267, v_268, v_269, v_270, v_271, v_272, v_273, v_274, v_275, v_276, v_277, v_278, y_279, v_280, v_281, v_282, v_283, v_284, y_285, v_286, y_287, v_288, hr_301, b_289, b_290, b_291, b_292, b_293, b_294, b_295, b_296, b_297, b_298, b_299, b_300⟩ := wg_12 hWF Tu
              have tq_302 := mi_row hr_301 20 rfl
              have tq_303 := mi_row hr_301 25 rfl
              have tq_304 := mi_row hr_301 29 rfl
              have tq_305 := mi_row hr_301 53 rfl
              refine py_get (C := RX12) (T := TX12) (N := 54) (k := 26) (v := .ref (G.2 u 26)) G0 hw in_X12_takeValley_X12 rfl hr_301 (by decide) (by decide +kernel) rfl dX12_takeValley_51 ?_
              refine lv_iload_n G0.1 G0.2.1 dX12_takeValley_54 rfl (lv_at hl 0 rfl) ?_
              refine lv_iconst (v := 0) G0.1 G0.2.1 dX12_takeValley_55 (by decide) ?_
              obtain ⟨g_306, ha_307, hi_308⟩ := wf_n55 hWF (wt12_26 hG Tu)
              have rg_309 : vp_in v_58 90 := ti_in (by omega) (by omega)
              refine py_iast G0 hw ha_307 rg_309 dX12_takeValley_56 (fun f_310 H_311 locs h_312 x_313 hw => ?_)
              have hR := hR.same ((x_313 _ (hWF _ (by rw [(wt12_18 hG Tu)]; decide)).1 (wf_ne (wt12_18 hG Tu) (wt12_26 hG Tu) (by decide))).2) rfl
              have hFK := hFK.same ((x_313 _ (hWF _ (by rw [Tu]; decide)).1 (wf_ne Tu (wt12_26 hG Tu) (by decide))).2)
              have hKP := hKP.upd hWF x_313 (wt12_26 hG Tu) (Or.inl (by decide))
              have hi_314 : wf_nw (upd g_306 (v_58 : Int32).toNatClampNeg (0 : Int32)) := (nw_z hi_308)
              have hWF := wf_upd hWF h_312 x_313 (by rw [(wt12_26 hG Tu)]; exact ⟨_, rfl, hi_314⟩)
              have hr_301 := hr_301.ext x_313 (py_ne_arr hr_301 ha_307)
              have tq_315 := mi_row hr_301 20 rfl
              have tq_316 := mi_row hr_301 25 rfl
              have tq_317 := mi_row hr_301 29 rfl
              have tq_318 := mi_row hr_301 53 rfl
              obtain ⟨x_319, ex_319⟩ : ∃ y : Int32, y = v_58 + 1 := ⟨_, rfl⟩
              first | have tx_319 := ti_add ex_319 (by omega -splitDisjunctions) (by omega -splitDisjunctions) | skip
              refine lv_iinc (v := x_319) (lv' := [(1, .int x_319), (0, .ref u)]) G0.1 G0.2.1 dX12_takeValley_57 hl (k := 0) rfl (show _ + (1 : Int32) = _ from ex_319.symm) (by decide) rfl (fun ls hl => ?_)
              refine lv_goto (tgt := 44) G0.1 G0.2.1 dX12_takeValley_60 (by decide) ?_
              exact ih_44 ((2147483647 - x_319.toInt).toNat) (by omega) x_319 L_j44 f_310 _ _ ls rfl ⟨by omega, by omega⟩ hWF hKP hR hFK (by first | omega | (intros; omega)) hw (lv_sub hl [0, 1] rfl)
        exact lo_44 _ 0 L_j18 f_j18 _ _ ls rfl ⟨by omega, by omega⟩ hWF hKP hR hFK (by first | omega | (intros; omega)) hw (lv_sub hl [0, 1] rfl)
      · skip
        have tc_57 := ti_nle c_57
        refine lv_aload_n G0.1 G0.2.1 dX12_takeValley_24 rfl (lv_at hl 1 rfl) ?_
        obtain ⟨v_320, v_321, v_322, v_323, v_324, v_325, v_326, v_327, v_328, v_329, v_330, v_331, y_332, v_333, v_334, v_335, v_336, v_337, y_338, v_339, y_340, v_341, hr_354, b_342, b_343, b_344, b_345, b_346, b_347, b_348, b_349, b_350, b_351, b_352, b_353⟩ := wg_12 hWF Tu
        have tq_355 := mi_row hr_354 20 rfl
        have tq_356 := mi_row hr_354 25 rfl
        have tq_357 := mi_row hr_354 29 rfl
        have tq_358 := mi_row hr_354 53 rfl
        refine py_get (C := RX12) (T := TX12) (N := 54) (k := 21) (v := .ref (G.2 u 21)) G0 hw in_X12_takeValley_X12 rfl hr_354 (by decide) (by decide +kernel) rfl dX12_takeValley_25 ?_
        refine lv_iload_n G0.1 G0.2.1 dX12_takeValley_28 rfl (lv_at hl 0 rfl) ?_
        refine lv_aload_n G0.1 G0.2.1 dX12_takeValley_29 rfl (lv_at hl 1 rfl) ?_
        refine py_get (C := RX12) (T := TX12) (N := 54) (k := 17) (v := .ref (G.2 u 17)) G0 hw in_X12_takeValley_X12 rfl hr_354 (by decide) (by decide +kernel) rfl dX12_takeValley_30 ?_
        refine lv_iload_n G0.1 G0.2.1 dX12_takeValley_33 rfl (lv_at hl 0 rfl) ?_
        obtain ⟨g_359, ha_360, hi_361⟩ := wf_arr (n := 32) (lo := (-2147483648)) (hi := 2147483647) hWF (wt12_17 hG Tu) (by decide) (fun _ => rfl)
        have rg_362 : vp_in v_56 32 := ti_in (by omega) (by omega)
        refine py_iald G0 hw ha_360 rg_362 dX12_takeValley_34 ?_
        refine lv_topi (fun x_363 ex_363 => ?_)
        have bx_363 := wf_free x_363
        have zx_363 := arz_ld ha_360 ex_363
        obtain ⟨g_364, ha_365, hi_366⟩ := wf_arr (n := 32) (lo := (-2147483648)) (hi := 2147483647) hWF (wt12_21 hG Tu) (by decide) (fun _ => rfl)
        have rg_367 : vp_in v_56 32 := ti_in (by omega) (by omega)
        refine py_iast G0 hw ha_365 rg_367 dX12_takeValley_35 (fun f_368 H_369 locs h_370 x_371 hw => ?_)
        have hR := hR.same ((x_371 _ (hWF _ (by rw [(wt12_18 hG Tu)]; decide)).1 (wf_ne (wt12_18 hG Tu) (wt12_21 hG Tu) (by decide))).2) rfl
        have hFK := hFK.same ((x_371 _ (hWF _ (by rw [Tu]; decide)).1 (wf_ne Tu (wt12_21 hG Tu) (by decide))).2)
        have hKP := hKP.upd hWF x_371 (wt12_21 hG Tu) (Or.inl (by decide))
        have hi_372 := wf_inu (k := (v_56 : Int32).toNatClampNeg) (x := x_363) hi_366 (wf_free x_363).1 (wf_free x_363).2
        have hWF := wf_upd hWF h_370 x_371 (by rw [(wt12_21 hG Tu)]; exact ⟨_, rfl, hi_372⟩)
        have hr_354 := hr_354.ext x_371 (py_ne_arr hr_354 ha_365)
        have tq_373 := mi_row hr_354 20 rfl
        have tq_374 := mi_row hr_354 25 rfl
        have tq_375 := mi_row hr_354 29 rfl
        have tq_376 := mi_row hr_354 53 rfl
        have ha_360 := ha_360.ext x_371 (wf_ne (wt12_17 hG Tu) (wt12_21 hG Tu) (by decide))
        obtain ⟨x_377, ex_377⟩ : ∃ y : Int32, y = v_56 + 1 := ⟨_, rfl⟩
        first | have tx_377 := ti_add ex_377 (by omega -splitDisjunctions) (by omega -splitDisjunctions) | skip
        refine lv_iinc (v := x_377) (lv' := [(1, .int x_377), (0, .ref u)]) G0.1 G0.2.1 dX12_takeValley_36 hl (k := 0) rfl (show _ + (1 : Int32) = _ from ex_377.symm) (by decide) rfl (fun ls hl => ?_)
        refine lv_goto (tgt := 18) G0.1 G0.2.1 dX12_takeValley_39 (by decide) ?_
        exact ih_18 ((2147483647 - x_377.toInt).toNat) (by omega) x_377 L_j18 f_368 _ _ ls rfl ⟨by omega, by omega⟩ hWF hKP hR hFK (by first | omega | (intros; omega)) hw (lv_sub hl [0, 1] rfl)
  exact lo_18 _ 0 L f_48 _ _ ls rfl ⟨by omega, by omega⟩ hWF hKP hR hFK (by first | omega | (intros; omega)) hw (lv_sub hl [0, 1] rfl)
