theorem dX12_init_0 : decode cX12_init 0 = .ok (.aload_n 0, 1) := by decide +kernel
theorem dX12_init_1 : decode cX12_init 1 = .ok (.invokespecial 3, 3) := by decide +kernel
theorem dX12_init_4 : decode cX12_init 4 = .ok (.aload_n 0, 1) := by decide +kernel
theorem dX12_init_5 : decode cX12_init 5 = .ok (.sipush 160, 3) := by decide +kernel
theorem dX12_init_8 : decode cX12_init 8 = .ok (.newarray .int, 2) := by decide +kernel
theorem dX12_init_10 : decode cX12_init 10 = .ok (.putfield 9, 3) := by decide +kernel
theorem dX12_init_13 : decode cX12_init 13 = .ok (.aload_n 0, 1) := by decide +kernel
theorem dX12_init_14 : decode cX12_init 14 = .ok (.sipush 1700, 3) := by decide +kernel
theorem dX12_init_17 : decode cX12_init 17 = .ok (.newarray .int, 2) := by decide +kernel
theorem dX12_init_19 : decode cX12_init 19 = .ok (.putfield 13, 3) := by decide +kernel
theorem dX12_init_22 : decode cX12_init 22 = .ok (.aload_n 0, 1) := by decide +kernel
theorem dX12_init_23 : decode cX12_init 23 = .ok (.sipush 1700, 3) := by decide +kernel
theorem dX12_init_26 : decode cX12_init 26 = .ok (.newarray .int, 2) := by decide +kernel
theorem dX12_init_28 : decode cX12_init 28 = .ok (.putfield 16, 3) := by decide +kernel
theorem dX12_init_31 : decode cX12_init 31 = .ok (.aload_n 0, 1) := by decide +kernel
theorem dX12_init_32 : decode cX12_init 32 = .ok (.iconst 5, 1) := by decide +kernel
theorem dX12_init_33 : decode cX12_init 33 = .ok (.newarray .int, 2) := by decide +kernel
theorem dX12_init_35 : decode cX12_init 35 = .ok (.putfield 19, 3) := by decide +kernel
theorem dX12_init_38 : decode cX12_init 38 = .ok (.aload_n 0, 1) := by decide +kernel
theorem dX12_init_39 : decode cX12_init 39 = .ok (.iconst 5, 1) := by decide +kernel
theorem dX12_init_40 : decode cX12_init 40 = .ok (.newarray .int, 2) := by decide +kernel
theorem dX12_init_42 : decode cX12_init 42 = .ok (.putfield 22, 3) := by decide +kernel
theorem dX12_init_45 : decode cX12_init 45 = .ok (.aload_n 0, 1) := by decide +kernel
theorem dX12_init_46 : decode cX12_init 46 = .ok (.sipush 450, 3) := by decide +kernel
theorem dX12_init_49 : decode cX12_init 49 = .ok (.newarray .int, 2) := by decide +kernel
theorem dX12_init_51 : decode cX12_init 51 = .ok (.putfield 25, 3) := by decide +kernel
theorem dX12_init_54 : decode cX12_init 54 = .ok (.aload_n 0, 1) := by decide +kernel
theorem dX12_init_55 : decode cX12_init 55 = .ok (.sipush 450, 3) := by decide +kernel
theorem dX12_init_58 : decode cX12_init 58 = .ok (.newarray .int, 2) := by decide +kernel
theorem dX12_init_60 : decode cX12_init 60 = .ok (.putfield 28, 3) := by decide +kernel
theorem dX12_init_63 : decode cX12_init 63 = .ok (.aload_n 0, 1) := by decide +kernel
theorem dX12_init_64 : decode cX12_init 64 = .ok (.sipush 450, 3) := by decide +kernel
theorem dX12_init_67 : decode cX12_init 67 = .ok (.newarray .int, 2) := by decide +kernel
theorem dX12_init_69 : decode cX12_init 69 = .ok (.putfield 31, 3) := by decide +kernel
theorem dX12_init_72 : decode cX12_init 72 = .ok (.aload_n 0, 1) := by decide +kernel
theorem dX12_init_73 : decode cX12_init 73 = .ok (.bipush 6, 2) := by decide +kernel
theorem dX12_init_75 : decode cX12_init 75 = .ok (.newarray .int, 2) := by decide +kernel
theorem dX12_init_77 : decode cX12_init 77 = .ok (.putfield 34, 3) := by decide +kernel
theorem dX12_init_80 : decode cX12_init 80 = .ok (.aload_n 0, 1) := by decide +kernel
theorem dX12_init_81 : decode cX12_init 81 = .ok (.bipush 80, 2) := by decide +kernel
theorem dX12_init_83 : decode cX12_init 83 = .ok (.newarray .int, 2) := by decide +kernel
theorem dX12_init_85 : decode cX12_init 85 = .ok (.putfield 37, 3) := by decide +kernel
theorem dX12_init_88 : decode cX12_init 88 = .ok (.aload_n 0, 1) := by decide +kernel
theorem dX12_init_89 : decode cX12_init 89 = .ok (.bipush 32, 2) := by decide +kernel
theorem dX12_init_91 : decode cX12_init 91 = .ok (.newarray .int, 2) := by decide +kernel
theorem dX12_init_93 : decode cX12_init 93 = .ok (.putfield 40, 3) := by decide +kernel
theorem dX12_init_96 : decode cX12_init 96 = .ok (.aload_n 0, 1) := by decide +kernel
theorem dX12_init_97 : decode cX12_init 97 = .ok (.bipush 40, 2) := by decide +kernel
theorem dX12_init_99 : decode cX12_init 99 = .ok (.newarray .int, 2) := by decide +kernel
theorem dX12_init_101 : decode cX12_init 101 = .ok (.putfield 43, 3) := by decide +kernel
theorem dX12_init_104 : decode cX12_init 104 = .ok (.aload_n 0, 1) := by decide +kernel
theorem dX12_init_105 : decode cX12_init 105 = .ok (.bipush 32, 2) := by decide +kernel
theorem dX12_init_107 : decode cX12_init 107 = .ok (.newarray .int, 2) := by decide +kernel
theorem dX12_init_109 : decode cX12_init 109 = .ok (.putfield 46, 3) := by decide +kernel
theorem dX12_init_112 : decode cX12_init 112 = .ok (.aload_n 0, 1) := by decide +kernel
theorem dX12_init_113 : decode cX12_init 113 = .ok (.bipush 10, 2) := by decide +kernel
theorem dX12_init_115 : decode cX12_init 115 = .ok (.newarray .int, 2) := by decide +kernel
theorem dX12_init_117 : decode cX12_init 117 = .ok (.putfield 49, 3) := by decide +kernel
theorem dX12_init_120 : decode cX12_init 120 = .ok (.aload_n 0, 1) := by decide +kernel
theorem dX12_init_121 : decode cX12_init 121 = .ok (.bipush 10, 2) := by decide +kernel
theorem dX12_init_123 : decode cX12_init 123 = .ok (.newarray .int, 2) := by decide +kernel
theorem dX12_init_125 : decode cX12_init 125 = .ok (.putfield 52, 3) := by decide +kernel
theorem dX12_init_128 : decode cX12_init 128 = .ok (.aload_n 0, 1) := by decide +kernel
theorem dX12_init_129 : decode cX12_init 129 = .ok (.bipush 90, 2) := by decide +kernel
theorem dX12_init_131 : decode cX12_init 131 = .ok (.newarray .int, 2) := by decide +kernel
theorem dX12_init_133 : decode cX12_init 133 = .ok (.putfield 55, 3) := by decide +kernel
theorem dX12_init_136 : decode cX12_init 136 = .ok (.aload_n 0, 1) := by decide +kernel
theorem dX12_init_137 : decode cX12_init 137 = .ok (.bipush 90, 2) := by decide +kernel
theorem dX12_init_139 : decode cX12_init 139 = .ok (.newarray .int, 2) := by decide +kernel
theorem dX12_init_141 : decode cX12_init 141 = .ok (.putfield 58, 3) := by decide +kernel
theorem dX12_init_144 : decode cX12_init 144 = .ok (.aload_n 0, 1) := by decide +kernel
theorem dX12_init_145 : decode cX12_init 145 = .ok (.bipush 90, 2) := by decide +kernel
theorem dX12_init_147 : decode cX12_init 147 = .ok (.newarray .int, 2) := by decide +kernel
theorem dX12_init_149 : decode cX12_init 149 = .ok (.putfield 61, 3) := by decide +kernel
theorem dX12_init_152 : decode cX12_init 152 = .ok (.aload_n 0, 1) := by decide +kernel
theorem dX12_init_153 : decode cX12_init 153 = .ok (.iconst (-1), 1) := by decide +kernel
theorem dX12_init_154 : decode cX12_init 154 = .ok (.putfield 64, 3) := by decide +kernel
theorem dX12_init_157 : decode cX12_init 157 = .ok (.aload_n 0, 1) := by decide +kernel
theorem dX12_init_158 : decode cX12_init 158 = .ok (.bipush 50, 2) := by decide +kernel
theorem dX12_init_160 : decode cX12_init 160 = .ok (.putfield 68, 3) := by decide +kernel
theorem dX12_init_163 : decode cX12_init 163 = .ok (.aload_n 0, 1) := by decide +kernel
theorem dX12_init_164 : decode cX12_init 164 = .ok (.bipush 10, 2) := by decide +kernel
theorem dX12_init_166 : decode cX12_init 166 = .ok (.putfield 71, 3) := by decide +kernel
theorem dX12_init_169 : decode cX12_init 169 = .ok (.aload_n 0, 1) := by decide +kernel
theorem dX12_init_170 : decode cX12_init 170 = .ok (.bipush 8, 2) := by decide +kernel
theorem dX12_init_172 : decode cX12_init 172 = .ok (.newarray .int, 2) := by decide +kernel
theorem dX12_init_174 : decode cX12_init 174 = .ok (.putfield 74, 3) := by decide +kernel
theorem dX12_init_177 : decode cX12_init 177 = .ok (.aload_n 0, 1) := by decide +kernel
theorem dX12_init_178 : decode cX12_init 178 = .ok (.bipush 10, 2) := by decide +kernel
theorem dX12_init_180 : decode cX12_init 180 = .ok (.newarray .int, 2) := by decide +kernel
theorem dX12_init_182 : decode cX12_init 182 = .ok (.putfield 77, 3) := by decide +kernel
theorem dX12_init_185 : decode cX12_init 185 = .ok (.aload_n 0, 1) := by decide +kernel
theorem dX12_init_186 : decode cX12_init 186 = .ok (.bipush 10, 2) := by decide +kernel
theorem dX12_init_188 : decode cX12_init 188 = .ok (.newarray .int, 2) := by decide +kernel
theorem dX12_init_190 : decode cX12_init 190 = .ok (.putfield 80, 3) := by decide +kernel
theorem dX12_init_193 : decode cX12_init 193 = .ok (.aload_n 0, 1) := by decide +kernel
theorem dX12_init_194 : decode cX12_init 194 = .ok (.sipush 600, 3) := by decide +kernel
theorem dX12_init_197 : decode cX12_init 197 = .ok (.newarray .int, 2) := by decide +kernel
theorem dX12_init_199 : decode cX12_init 199 = .ok (.putfield 83, 3) := by decide +kernel
theorem dX12_init_202 : decode cX12_init 202 = .ok (.aload_n 0, 1) := by decide +kernel
theorem dX12_init_203 : decode cX12_init 203 = .ok (.sipush 600, 3) := by decide +kernel
theorem dX12_init_206 : decode cX12_init 206 = .ok (.newarray .int, 2) := by decide +kernel
theorem dX12_init_208 : decode cX12_init 208 = .ok (.putfield 86, 3) := by decide +kernel
theorem dX12_init_211 : decode cX12_init 211 = .ok (.aload_n 0, 1) := by decide +kernel
theorem dX12_init_212 : decode cX12_init 212 = .ok (.bipush 40, 2) := by decide +kernel
theorem dX12_init_214 : decode cX12_init 214 = .ok (.newarray .int, 2) := by decide +kernel
theorem dX12_init_216 : decode cX12_init 216 = .ok (.putfield 89, 3) := by decide +kernel
theorem dX12_init_219 : decode cX12_init 219 = .ok (.aload_n 0, 1) := by decide +kernel
theorem dX12_init_220 : decode cX12_init 220 = .ok (.bipush 40, 2) := by decide +kernel
theorem dX12_init_222 : decode cX12_init 222 = .ok (.newarray .int, 2) := by decide +kernel
theorem dX12_init_224 : decode cX12_init 224 = .ok (.putfield 92, 3) := by decide +kernel
theorem dX12_init_227 : decode cX12_init 227 = .ok (.aload_n 0, 1) := by decide +kernel
theorem dX12_init_228 : decode cX12_init 228 = .ok (.bipush 40, 2) := by decide +kernel
theorem dX12_init_230 : decode cX12_init 230 = .ok (.newarray .int, 2) := by decide +kernel
theorem dX12_init_232 : decode cX12_init 232 = .ok (.putfield 95, 3) := by decide +kernel
theorem dX12_init_235 : decode cX12_init 235 = .ok (.aload_n 0, 1) := by decide +kernel
theorem dX12_init_236 : decode cX12_init 236 = .ok (.bipush 8, 2) := by decide +kernel
theorem dX12_init_238 : decode cX12_init 238 = .ok (.newarray .int, 2) := by decide +kernel
theorem dX12_init_240 : decode cX12_init 240 = .ok (.putfield 98, 3) := by decide +kernel
theorem dX12_init_243 : decode cX12_init 243 = .ok (.aload_n 0, 1) := by decide +kernel
theorem dX12_init_244 : decode cX12_init 244 = .ok (.sipush 168, 3) := by decide +kernel
theorem dX12_init_247 : decode cX12_init 247 = .ok (.newarray .long, 2) := by decide +kernel
theorem dX12_init_249 : decode cX12_init 249 = .ok (.putfield 101, 3) := by decide +kernel
theorem dX12_init_252 : decode cX12_init 252 = .ok (.aload_n 0, 1) := by decide +kernel
theorem dX12_init_253 : decode cX12_init 253 = .ok (.sipush 168, 3) := by decide +kernel
theorem dX12_init_256 : decode cX12_init 256 = .ok (.newarray .long, 2) := by decide +kernel
theorem dX12_init_258 : decode cX12_init 258 = .ok (.putfield 105, 3) := by decide +kernel
theorem dX12_init_261 : decode cX12_init 261 = .ok (.aload_n 0, 1) := by decide +kernel
theorem dX12_init_262 : decode cX12_init 262 = .ok (.bipush 22, 2) := by decide +kernel
theorem dX12_init_264 : decode cX12_init 264 = .ok (.newarray .long, 2) := by decide +kernel
theorem dX12_init_266 : decode cX12_init 266 = .ok (.putfield 108, 3) := by decide +kernel
theorem dX12_init_269 : decode cX12_init 269 = .ok (.aload_n 0, 1) := by decide +kernel
theorem dX12_init_270 : decode cX12_init 270 = .ok (.sipush 600, 3) := by decide +kernel
theorem dX12_init_273 : decode cX12_init 273 = .ok (.newarray .int, 2) := by decide +kernel
theorem dX12_init_275 : decode cX12_init 275 = .ok (.putfield 111, 3) := by decide +kernel
theorem dX12_init_278 : decode cX12_init 278 = .ok (.aload_n 0, 1) := by decide +kernel
theorem dX12_init_279 : decode cX12_init 279 = .ok (.sipush 600, 3) := by decide +kernel
theorem dX12_init_282 : decode cX12_init 282 = .ok (.newarray .int, 2) := by decide +kernel
theorem dX12_init_284 : decode cX12_init 284 = .ok (.putfield 114, 3) := by decide +kernel
theorem dX12_init_287 : decode cX12_init 287 = .ok (.return_, 1) := by decide +kernel
def w_X12_init : List Cond := .code yX12_init cX12_init 1 none :: ([Cond.methodLink RX12 3 objectInit, Cond.instanceMethod objectInit, Cond.code objectInit ⟨#[0xb1]⟩ 1 none, Cond.arrayClass .int, Cond.fieldLink RX12 9 "HeadYearModel" "tape" "[I", Cond.fieldLink RX12 13 "HeadYearModel" "code" "[I", Cond.fieldLink RX12 16 "HeadYearModel" "value" "[I", Cond.fieldLink RX12 19 "HeadYearModel" "codes" "[I", Cond.fieldLink RX12 22 "HeadYearModel" "clauses" "[I", Cond.fieldLink RX12 25 "HeadYearModel" "testFrom" "[I", Cond.fieldLink RX12 28 "HeadYearModel" "sumFrom" "[I", Cond.fieldLink RX12 31 "HeadYearModel" "sumTo" "[I", Cond.fieldLink RX12 34 "HeadYearModel" "letters" "[I", Cond.fieldLink RX12 37 "HeadYearModel" "stack" "[I", Cond.fieldLink RX12 40 "HeadYearModel" "readLevel" "[I", Cond.fieldLink RX12 43 "HeadYearModel" "readFamily" "[I", Cond.fieldLink RX12 46 "HeadYearModel" "levelRow" "[I", Cond.fieldLink RX12 49 "HeadYearModel" "birth" "[I", Cond.fieldLink RX12 52 "HeadYearModel" "twin" "[I", Cond.fieldLink RX12 55 "HeadYearModel" "now" "[I", Cond.fieldLink RX12 58 "HeadYearModel" "aside" "[I", Cond.fieldLink RX12 61 "HeadYearModel" "image" "[I", Cond.fieldLink RX12 64 "HeadYearModel" "holding" "I", Cond.fieldLink RX12 68 "HeadYearModel" "find" "I", Cond.fieldLink RX12 71 "HeadYearModel" "price" "I", Cond.fieldLink RX12 74 "HeadYearModel" "lacks" "[I", Cond.fieldLink RX12 77 "HeadYearModel" "toLevel" "[I", Cond.fieldLink RX12 80 "HeadYearModel" "toHut" "[I", Cond.fieldLink RX12 83 "HeadYearModel" "diaryLevel" "[I", Cond.fieldLink RX12 86 "HeadYearModel" "diaryHeads" "[I", Cond.fieldLink RX12 89 "HeadYearModel" "buyer" "[I", Cond.fieldLink RX12 92 "HeadYearModel" "buyBy" "[I", Cond.fieldLink RX12 95 "HeadYearModel" "buyCost" "[I", Cond.fieldLink RX12 98 "HeadYearModel" "far" "[I", Cond.arrayClass .long, Cond.fieldLink RX12 101 "HeadYearModel" "parts" "[J", Cond.fieldLink RX12 105 "HeadYearModel" "then" "[J", Cond.fieldLink RX12 108 "HeadYearModel" "dying" "[J", Cond.fieldLink RX12 111 "HeadYearModel" "imageLevel" "[I", Cond.fieldLink RX12 114 "HeadYearModel" "imageHeads" "[I"] ++ (u_ws RX12 TX12 54 ++ ([])))
theorem in_X12_init_X12 : ∀ w ∈ u_ws RX12 TX12 54, w ∈ w_X12_init := fun _ h => List.mem_cons_of_mem _ (List.mem_append_right _ (List.mem_append_left _ h))
set_option maxHeartbeats 4000000 in
set_option maxRecDepth 100000 in
theorem c_X12_init (l : Launch) (E : py_E) (G : wf_G) (L : List Nat) (f : py_F) (sz : Nat) (h : Nat) (hZ : GZ E G L f) (hh : py_at L f h (.inr (12, [.int 0, .null, .int 0, .int 0, .int 0, .int 0, .null, .null, .null, .null, .null, .null, .null, .int 0, .int 0, .null, .null, .null, .null, .int 0, .int 0, .null, .null, .null, .int 0, .int 0, .null, .null, .null, .int 0, .long 0, .int 0, .int 0, .int 0, .int 0, .null, .null, .null, .null, .null, .null, .null, .null, .int 0, .null, .null, .null, .null, .long 0, .null, .null, .int 0, .long 0, .int 0]))) (uh : G.1 h = 0) : Met l yX12_init w_X12_init ({ frames := 1, cells := 32, slots := 8314, locals := 12 }) (py_Pc E [.ref h] L f sz) (py_Qv E L f sz (fun L1 f1 => ∃ G1 : wf_G, GX G G1 ∧ GZ E G1 L1 f1 ∧ G1.1 h = 13 ∧ NTR L f G h L1 f1 G1 ∧ GM f1 G1 h ∧ mi f1 h 2 = 0 ∧ mi f1 h 13 = 0 ∧ mi f1 h 25 = 0 ∧ mi f1 h 29 = 0 ∧ mi f1 h 53 = 0)) 32 8314 (va_A (va_pl L f) sz) := by
  refine Met.ofW (cc := cX12_init) (maxL := 1) (ret := none) (by decide) rfl ?_
  intro p e s m args below meth c s₁ B hml hv
  obtain ⟨rfl, rfl, hw⟩ := py_start hv
  have G0 : CallFix p m c cX12_init 1 s _ w_X12_init RX12 := ⟨B.exec, B.bytes, hml, findClass_of_methodNamed B.named, atoms_spec (ws := w_X12_init) B.pre⟩
  have hr := B.returns
  have hlk := B.notSynchronized
  have hin : meth.name = "<init>" := (name_of_methodNamed B.named B.method).1
  have hl := lv_entry ([.ref h]) (n := 1) (Nat.le_of_ble_eq_true rfl)
  rw [lg_entry_eq]
  generalize (lg_sl ([.ref h]) ++ List.replicate (1 - (lg_sl ([.ref h])).length) Slot.unset).toArray = ls at hl ⊢
  have hl : lv_has ls 1 [(0, .ref h)] := hl
  have hT : NTR L f G h L f G := NTR.refl
  have hX : GX G G := GX.refl
  refine lv_aload_n G0.1 G0.2.1 dX12_init_0 rfl (lv_at hl 0 rfl) ?_
  refine py_objInit G0 hl.1 (by decide +kernel) (by decide +kernel) (by decide +kernel) dX12_init_1 (Nat.le_of_ble_eq_true rfl) (Nat.le_of_ble_eq_true rfl) ?_
  refine lv_aload_n G0.1 G0.2.1 dX12_init_4 rfl (lv_at hl 0 rfl) ?_
  refine lv_sipush (v := 160) G0.1 G0.2.1 dX12_init_5 (by decide) ?_
  refine py_newI (N := 160) G0 hw (by decide +kernel) (by decide) (by decide) (Nat.le_of_ble_eq_true rfl) (Nat.le_of_ble_eq_true rfl) (Nat.le_of_ble_eq_true rfl) dX12_init_8 (fun q_1 L_2 f_3 H_4 hq_5 h_6 x_7 hw => ?_)
  have u_8 := hZ.un hq_5
  have nq_9 := hT.ne hq_5
  have ne_10 : h ≠ q_1 := py_ne_new hh hq_5
  have hh := hh.all x_7
  have hZ := hZ.all x_7
  have hT := hT.all x_7
  obtain ⟨G_13, gx_11, hZ, ty_12, ee_13⟩ := hZ.arr (c := 40) (n := 160) (lo := (-2147483648)) (hi := 2147483647) u_8 (by decide) (by decide) h_6 (fun _ _ => rfl) (fun _ => rfl) (by decide) (by decide)
  have hX := hX.trans gx_11
  have uh := (ee_13 h ne_10).trans uh
  have hT := hT.ty ee_13 nq_9
  refine py_putF (C := RX12) (T := TX12) (N := 54) (k := 1) (v := .ref q_1) (fs' := [.int 0, .ref q_1, .int 0, .int 0, .int 0, .int 0, .null, .null, .null, .null, .null, .null, .null, .int 0, .int 0, .null, .null, .null, .null, .int 0, .int 0, .null, .null, .null, .int 0, .int 0, .null, .null, .null, .int 0, .long 0, .int 0, .int 0, .int 0, .int 0, .null, .null, .null, .null, .null, .null, .null, .null, .int 0, .null, .null, .null, .null, .long 0, .null, .null, .int 0, .long 0, .int 0]) (ty0 := tyX12) G0 hin hw tyX12_ok nmX12 in_X12_init_X12 rfl hh (by decide) (by decide +kernel) rfl rfl rfl rfl rfl (Nat.le_of_ble_eq_true rfl) rfl dX12_init_10 (fun f_14 H_15 locs h_16 x_17 hw => ?_)
  have hZ := hZ.unt uh x_17
  have hT := hT.ext x_17
  refine lv_aload_n G0.1 G0.2.1 dX12_init_13 rfl (lv_at hl 0 rfl) ?_
  refine lv_sipush (v := 1700) G0.1 G0.2.1 dX12_init_14 (by decide) ?_
  refine py_newI (N := 1700) G0 hw (by decide +kernel) (by decide) (by decide) (Nat.le_of_ble_eq_true rfl) (Nat.le_of_ble_eq_true rfl) (Nat.le_of_ble_eq_true rfl) dX12_init_17 (fun q_18 L_19 f_20 H_21 hq_22 h_23 x_24 hw => ?_)
  have u_25 := hZ.un hq_22
  have nq_26 := hT.ne hq_22
  have ne_27 : h ≠ q_18 := py_ne_new h_16 hq_22
  have h_16 := h_16.all x_24
  have hZ := hZ.all x_24
  have hT := hT.all x_24
  obtain ⟨G_30, gx_28, hZ, ty_29, ee_30⟩ := hZ.arr (c := 41) (n := 1700) (lo := (-2147483648)) (hi := 2147483647) u_25 (by decide) (by decide) h_23 (fun _ _ => rfl) (fun _ => rfl) (by decide) (by decide)
  have ty_12 := gx_28.ty ty_12 (by decide)
  have hX := hX.trans gx_28
  have uh := (ee_30 h ne_27).trans uh
  have hT := hT.ty ee_30 nq_26
  refine py_putF (C := RX12) (T := TX12) (N := 54) (k := 6) (v := .ref q_18) (fs' := [.int 0, .ref q_1, .int 0, .int 0, .int 0, .int 0, .ref q_18, .null, .null, .null, .null, .null, .null, .int 0, .int 0, .null, .null, .null, .null, .int 0, .int 0, .null, .null, .null, .int 0, .int 0, .null, .null, .null, .int 0, .long 0, .int 0, .int 0, .int 0, .int 0, .null, .null, .null, .null, .null, .null, .null, .null, .int 0, .null, .null, .null, .null, .long 0, .null, .null, .int 0, .long 0, .int 0]) (ty0 := tyX12) G0 hin hw tyX12_ok nmX12 in_X12_init_X12 rfl h_16 (by decide) (by decide +kernel) rfl rfl rfl rfl rfl (Nat.le_of_ble_eq_true rfl) rfl dX12_init_19 (fun f_31 H_32 locs h_33 x_34 hw => ?_)
  have hZ := hZ.unt uh x_34
  have hT := hT.ext x_34
  refine lv_aload_n G0.1 G0.2.1 dX12_init_22 rfl (lv_at hl 0 rfl) ?_
  refine lv_sipush (v := 1700) G0.1 G0.2.1 dX12_init_23 (by decide) ?_
  refine py_newI (N := 1700) G0 hw (by decide +kernel) (by decide) (by decide) (Nat.le_of_ble_eq_true rfl) (Nat.le_of_ble_eq_true rfl) (Nat.le_of_ble_eq_true rfl) dX12_init_26 (fun q_35 L_36 f_37 H_38 hq_39 h_40 x_41 hw => ?_)
  have u_42 := hZ.un hq_39
  have nq_43 := hT.ne hq_39
  have ne_44 : h ≠ q_35 := py_ne_new h_33 hq_39
  have h_33 := h_33.all x_41
  have hZ := hZ.all x_41
  have hT := hT.all x_41
  obtain ⟨G_47, gx_45, hZ, ty_46, ee_47⟩ := hZ.arr (c := 42) (n := 1700) (lo := (-2147483648)) (hi := 2147483647) u_42 (by decide) (by decide) h_40 (fun _ _ => rfl) (fun _ => rfl) (by decide) (by decide)
  have ty_12 := gx_45.ty ty_12 (by decide)
  have ty_29 := gx_45.ty ty_29 (by decide)
  have hX := hX.trans gx_45
  have uh := (ee_47 h ne_44).trans uh
  have hT := hT.ty ee_47 nq_43
  refine py_putF (C := RX12) (T := TX12) (N := 54) (k := 7) (v := .ref q_35) (fs' := [.int 0, .ref q_1, .int 0, .int 0, .int 0, .int 0, .ref q_18, .ref q_35, .null, .null, .null, .null, .null, .int 0, .int 0, .null, .null, .null, .null, .int 0, .int 0, .null, .null, .null, .int 0, .int 0, .null, .null, .null, .int 0, .long 0, .int 0, .int 0, .int 0, .int 0, .null, .null, .null, .null, .null, .null, .null, .null, .int 0, .null, .null, .null, .null, .long 0, .null, .null, .int 0, .long 0, .int 0]) (ty0 := tyX12) G0 hin hw tyX12_ok nmX12 in_X12_init_X12 rfl h_33 (by decide) (by decide +kernel) rfl rfl rfl rfl rfl (Nat.le_of_ble_eq_true rfl) rfl dX12_init_28 (fun f_48 H_49 locs h_50 x_51 hw => ?_)
  have hZ := hZ.unt uh x_51
  have hT := hT.ext x_51
  refine lv_aload_n G0.1 G0.2.1 dX12_init_31 rfl (lv_at hl 0 rfl) ?_
  refine lv_iconst (v := 5) G0.1 G0.2.1 dX12_init_32 (by decide) ?_
  refine py_newI (N := 5) G0 hw (by decide +kernel) (by decide) (by decide) (Nat.le_of_ble_eq_true rfl) (Nat.le_of_ble_eq_true rfl) (Nat.le_of_ble_eq_true rfl) dX12_init_33 (fun q_52 L_53 f_54 H_55 hq_56 h_57 x_58 hw => ?_)
  have u_59 := hZ.un hq_56
  have nq_60 := hT.ne hq_56
  have ne_61 : h ≠ q_52 := py_ne_new h_50 hq_56
  have h_50 := h_50.all x_58
  have hZ := hZ.all x_58
  have hT := hT.all x_58
  obtain ⟨G_64, gx_62, hZ, ty_63, ee_64⟩ := hZ.arr (c := 43) (n := 5) (lo := 0) (hi := 340) u_59 (by decide) (by decide) h_57 (fun _ _ => rfl) (fun _ => rfl) (by decide) (by decide)
  have ty_12 := gx_62.ty ty_12 (by decide)
  have ty_29 := gx_62.ty ty_29 (by decide)
  have ty_46 := gx_62.ty ty_46 (by decide)
  have hX := hX.trans gx_62
  have uh := (ee_64 h ne_61).trans uh
  have hT := hT.ty ee_64 nq_60
  refine py_putF (C := RX12) (T := TX12) (N := 54) (k := 8) (v := .ref q_52) (fs' := [.int 0, .ref q_1, .int 0, .int 0, .int 0, .int 0, .ref q_18, .ref q_35, .ref q_52, .null, .null, .null, .null, .int 0, .int 0, .null, .null, .null, .null, .int 0, .int 0, .null, .null, .null, .int 0, .int 0, .null, .null, .null, .int 0, .long 0, .int 0, .int 0, .int 0, .int 0, .null, .null, .null, .null, .null, .null, .null, .null, .int 0, .null, .null, .null, .null, .long 0, .null, .null, .int 0, .long 0, .int 0]) (ty0 := tyX12) G0 hin hw tyX12_ok nmX12 in_X12_init_X12 rfl h_50 (by decide) (by decide +kernel) rfl rfl rfl rfl rfl (Nat.le_of_ble_eq_true rfl) rfl dX12_init_35 (fun f_65 H_66 locs h_67 x_68 hw => ?_)
  have hZ := hZ.unt uh x_68
  have hT := hT.ext x_68
  refine lv_aload_n G0.1 G0.2.1 dX12_init_38 rfl (lv_at hl 0 rfl) ?_
  refine lv_iconst (v := 5) G0.1 G0.2.1 dX12_init_39 (by decide) ?_
  refine py_newI (N := 5) G0 hw (by decide +kernel) (by decide) (by decide) (Nat.le_of_ble_eq_true rfl) (Nat.le_of_ble_eq_true rfl) (Nat.le_of_ble_eq_true rfl) dX12_init_40 (fun q_69 L_70 f_71 H_72 hq_73 h_74 x_75 hw => ?_)
  have u_76 := hZ.un hq_73
  have nq_77 := hT.ne hq_73
  have ne_78 : h ≠ q_69 := py_ne_new h_67 hq_73
  have h_67 := h_67.all x_75
  have hZ := hZ.all x_75
  have hT := hT.all x_75
  obtain ⟨G_81, gx_79, hZ, ty_80, ee_81⟩ := hZ.arr (c := 44) (n := 5) (lo := 0) (hi := 90) u_76 (by decide) (by decide) h_74 (fun _ _ => rfl) (fun _ => rfl) (by decide) (by decide)
  have ty_12 := gx_79.ty ty_12 (by decide)
  have ty_29 := gx_79.ty ty_29 (by decide)
  have ty_46 := gx_79.ty ty_46 (by decide)
  have ty_63 := gx_79.ty ty_63 (by decide)
  have hX := hX.trans gx_79
  have uh := (ee_81 h ne_78).trans uh
  have hT := hT.ty ee_81 nq_77
  refine py_putF (C := RX12) (T := TX12) (N := 54) (k := 9) (v := .ref q_69) (fs' := [.int 0, .ref q_1, .int 0, .int 0, .int 0, .int 0, .ref q_18, .ref q_35, .ref q_52, .ref q_69, .null, .null, .null, .int 0, .int 0, .null, .null, .null, .null, .int 0, .int 0, .null, .null, .null, .int 0, .int 0, .null, .null, .null, .int 0, .long 0, .int 0, .int 0, .int 0, .int 0, .null, .null, .null, .null, .null, .null, .null, .null, .int 0, .null, .null, .null, .null, .long 0, .null, .null, .int 0, .long 0, .int 0]) (ty0 := tyX12) G0 hin hw tyX12_ok nmX12 in_X12_init_X12 rfl h_67 (by decide) (by decide +kernel) rfl rfl rfl rfl rfl (Nat.le_of_ble_eq_true rfl) rfl dX12_init_42 (fun f_82 H_83 locs h_84 x_85 hw => ?_)
  have hZ := hZ.unt uh x_85
  have hT := hT.ext x_85
  refine lv_aload_n G0.1 G0.2.1 dX12_init_45 rfl (lv_at hl 0 rfl) ?_
  refine lv_sipush (v := 450) G0.1 G0.2.1 dX12_init_46 (by decide) ?_
  refine py_newI (N := 450) G0 hw (by decide +kernel) (by decide) (by decide) (Nat.le_of_ble_eq_true rfl) (Nat.le_of_ble_eq_true rfl) (Nat.le_of_ble_eq_true rfl) dX12_init_49 (fun q_86 L_87 f_88 H_89 hq_90 h_91 x_92 hw => ?_)
  have u_93 := hZ.un hq_90
  have nq_94 := hT.ne hq_90
  have ne_95 : h ≠ q_86 := py_ne_new h_84 hq_90
  have h_84 := h_84.all x_92
  have hZ := hZ.all x_92
  have hT := hT.all x_92
  obtain ⟨G_98, gx_96, hZ, ty_97, ee_98⟩ := hZ.arr (c := 45) (n := 450) (lo := (-2147483648)) (hi := 2147483647) u_93 (by decide) (by decide) h_91 (fun _ _ => rfl) (fun _ => rfl) (by decide) (by decide)
  have ty_12 := gx_96.ty ty_12 (by decide)
  have ty_29 := gx_96.ty ty_29 (by decide)
  have ty_46 := gx_96.ty ty_46 (by decide)
  have ty_63 := gx_96.ty ty_63 (by decide)
  have ty_80 := gx_96.ty ty_80 (by decide)
  have hX := hX.trans gx_96
  have uh := (ee_98 h ne_95).trans uh
  have hT := hT.ty ee_98 nq_94
  refine py_putF (C := RX12) (T := TX12) (N := 54) (k := 10) (v := .ref q_86) (fs' := [.int 0, .ref q_1, .int 0, .int 0, .int 0, .int 0, .ref q_18, .ref q_35, .ref q_52, .ref q_69, .ref q_86, .null, .null, .int 0, .int 0, .null, .null, .null, .null, .int 0, .int 0, .null, .null, .null, .int 0, .int 0, .null, .null, .null, .int 0, .long 0, .int 0, .int 0, .int 0, .int 0, .null, .null, .null, .null, .null, .null, .null, .null, .int 0, .null, .null, .null, .null, .long 0, .null, .null, .int 0, .long 0, .int 0]) (ty0 := tyX12) G0 hin hw tyX12_ok nmX12 in_X12_init_X12 rfl h_84 (by decide) (by decide +kernel) rfl rfl rfl rfl rfl (Nat.le_of_ble_eq_true rfl) rfl dX12_init_51 (fun f_99 H_100 locs h_101 x_102 hw => ?_)
  have hZ := hZ.unt uh x_102
  have hT := hT.ext x_102
  refine lv_aload_n G0.1 G0.2.1 dX12_init_54 rfl (lv_at hl 0 rfl) ?_
  refine lv_sipush (v := 450) G0.1 G0.2.1 dX12_init_55 (by decide) ?_
  refine py_newI (N := 450) G0 hw (by decide +kernel) (by decide) (by decide) (Nat.le_of_ble_eq_true rfl) (Nat.le_of_ble_eq_true rfl) (Nat.le_of_ble_eq_true rfl) dX12_init_58 (fun q_103 L_104 f_105 H_106 hq_107 h_108 x_109 hw => ?_)
  have u_110 := hZ.un hq_107
  have nq_111 := hT.ne hq_107
  have ne_112 : h ≠ q_103 := py_ne_new h_101 hq_107
  have h_101 := h_101.all x_109
  have hZ := hZ.all x_109
  have hT := hT.all x_109
  obtain ⟨G_115, gx_113, hZ, ty_114, ee_115⟩ := hZ.arr (c := 46) (n := 450) (lo := (-2147483648)) (hi := 2147483647) u_110 (by decide) (by decide) h_108 (fun _ _ => rfl) (fun _ => rfl) (by decide) (by decide)
  have ty_12 := gx_113.ty ty_12 (by decide)
  have ty_29 := gx_113.ty ty_29 (by decide)
  have ty_46 := gx_113.ty ty_46 (by decide)
  have ty_63 := gx_113.ty ty_63 (by decide)
  have ty_80 := gx_113.ty ty_80 (by decide)
  have ty_97 := gx_113.ty ty_97 (by decide)
  have hX := hX.trans gx_113
  have uh := (ee_115 h ne_112).trans uh
  have hT := hT.ty ee_115 nq_111
  refine py_putF (C := RX12) (T := TX12) (N := 54) (k := 11) (v := .ref q_103) (fs' := [.int 0, .ref q_1, .int 0, .int 0, .int 0, .int 0, .ref q_18, .ref q_35, .ref q_52, .ref q_69, .ref q_86, .ref q_103, .null, .int 0, .int 0, .null, .null, .null, .null, .int 0, .int 0, .null, .null, .null, .int 0, .int 0, .null, .null, .null, .int 0, .long 0, .int 0, .int 0, .int 0, .int 0, .null, .null, .null, .null, .null, .null, .null, .null, .int 0, .null, .null, .null, .null, .long 0, .null, .null, .int 0, .long 0, .int 0]) (ty0 := tyX12) G0 hin hw tyX12_ok nmX12 in_X12_init_X12 rfl h_101 (by decide) (by decide +kernel) rfl rfl rfl rfl rfl (Nat.le_of_ble_eq_true rfl) rfl dX12_init_60 (fun f_116 H_117 locs h_118 x_119 hw => ?_)
  have hZ := hZ.unt uh x_119
  have hT := hT.ext x_119
  refine lv_aload_n G0.1 G0.2.1 dX12_init_63 rfl (lv_at hl 0 rfl) ?_
  refine lv_sipush (v := 450) G0.1 G0.2.1 dX12_init_64 (by decide) ?_
  refine py_newI (N := 450) G0 hw (by decide +kernel) (by decide) (by decide) (Nat.le_of_ble_eq_true rfl) (Nat.le_of_ble_eq_true rfl) (Nat.le_of_ble_eq_true rfl) dX12_init_67 (fun q_120 L_121 f_122 H_123 hq_124 h_125 x_126 hw => ?_)
  have u_127 := hZ.un hq_124
  have nq_128 := hT.ne hq_124
  have ne_129 : h ≠ q_120 := py_ne_new h_118 hq_124
  have h_118 := h_118.all x_126
  have hZ := hZ.all x_126
  have hT := hT.all x_126
  obtain ⟨G_132, gx_130, hZ, ty_131, ee_132⟩ := hZ.arr (c := 47) (n := 450) (lo := (-2147483648)) (hi := 2147483647) u_127 (by decide) (by decide) h_125 (fun _ _ => rfl) (fun _ => rfl) (by decide) (by decide)
  have ty_12 := gx_130.ty ty_12 (by decide)
  have ty_29 := gx_130.ty ty_29 (by decide)
  have ty_46 := gx_130.ty ty_46 (by decide)
  have ty_63 := gx_130.ty ty_63 (by decide)
  have ty_80 := gx_130.ty ty_80 (by decide)
  have ty_97 := gx_130.ty ty_97 (by decide)
  have ty_114 := gx_130.ty ty_114 (by decide)
  have hX := hX.trans gx_130
  have uh := (ee_132 h ne_129).trans uh
  have hT := hT.ty ee_132 nq_128
  refine py_putF (C := RX12) (T := TX12) (N := 54) (k := 12) (v := .ref q_120) (fs' := [.int 0, .ref q_1, .int 0, .int 0, .int 0, .int 0, .ref q_18, .ref q_35, .ref q_52, .ref q_69, .ref q_86, .ref q_103, .ref q_120, .int 0, .int 0, .null, .null, .null, .null, .int 0, .int 0, .null, .null, .null, .int 0, .int 0, .null, .null, .null, .int 0, .long 0, .int 0, .int 0, .int 0, .int 0, .null, .null, .null, .null, .null, .null, .null, .null, .int 0, .null, .null, .null, .null, .long 0, .null, .null, .int 0, .long 0, .int 0]) (ty0 := tyX12) G0 hin hw tyX12_ok nmX12 in_X12_init_X12 rfl h_118 (by decide) (by decide +kernel) rfl rfl rfl rfl rfl (Nat.le_of_ble_eq_true rfl) rfl dX12_init_69 (fun f_133 H_134 locs h_135 x_136 hw => ?_)
  have hZ := hZ.unt uh x_136
  have hT := hT.ext x_136
  refine lv_aload_n G0.1 G0.2.1 dX12_init_72 rfl (lv_at hl 0 rfl) ?_
  refine lv_bipush (v := 6) G0.1 G0.2.1 dX12_init_73 (by decide) ?_
  refine py_newI (N := 6) G0 hw (by decide +kernel) (by decide) (by decide) (Nat.le_of_ble_eq_true rfl) (Nat.le_of_ble_eq_true rfl) (Nat.le_of_ble_eq_true rfl) dX12_init_75 (fun q_137 L_138 f_139 H_140 hq_141 h_142 x_143 hw => ?_)
  have u_144 := hZ.un hq_141
  have nq_145 := hT.ne hq_141
  have ne_146 : h ≠ q_137 := py_ne_new h_135 hq_141
  have h_135 := h_135.all x_143
  have hZ := hZ.all x_143
  have hT := hT.all x_143
  obtain ⟨G_149, gx_147, hZ, ty_148, ee_149⟩ := hZ.arr (c := 48) (n := 6) (lo := (-2147483648)) (hi := 2147483647) u_144 (by decide) (by decide) h_142 (fun _ _ => rfl) (fun _ => rfl) (by decide) (by decide)
  have ty_12 := gx_147.ty ty_12 (by decide)
  have ty_29 := gx_147.ty ty_29 (by decide)
  have ty_46 := gx_147.ty ty_46 (by decide)
  have ty_63 := gx_147.ty ty_63 (by decide)
  have ty_80 := gx_147.ty ty_80 (by decide)
  have ty_97 := gx_147.ty ty_97 (by decide)
  have ty_114 := gx_147.ty ty_114 (by decide)
  have ty_131 := gx_147.ty ty_131 (by decide)
  have hX := hX.trans gx_147
  have uh := (ee_149 h ne_146).trans uh
  have hT := hT.ty ee_149 nq_145
  refine py_putF (C := RX12) (T := TX12) (N := 54) (k := 15) (v := .ref q_137) (fs' := [.int 0, .ref q_1, .int 0, .int 0, .int 0, .int 0, .ref q_18, .ref q_35, .ref q_52, .ref q_69, .ref q_86, .ref q_103, .ref q_120, .int 0, .int 0, .ref q_137, .null, .null, .null, .int 0, .int 0, .null, .null, .null, .int 0, .int 0, .null, .null, .null, .int 0, .long 0, .int 0, .int 0, .int 0, .int 0, .null, .null, .null, .null, .null, .null, .null, .null, .int 0, .null, .null, .null, .null, .long 0, .null, .null, .int 0, .long 0, .int 0]) (ty0 := tyX12) G0 hin hw tyX12_ok nmX12 in_X12_init_X12 rfl h_135 (by decide) (by decide +kernel) rfl rfl rfl rfl rfl (Nat.le_of_ble_eq_true rfl) rfl dX12_init_77 (fun f_150 H_151 locs h_152 x_153 hw => ?_)
  have hZ := hZ.unt uh x_153
  have hT := hT.ext x_153
  refine lv_aload_n G0.1 G0.2.1 dX12_init_80 rfl (lv_at hl 0 rfl) ?_
  refine lv_bipush (v := 80) G0.1 G0.2.1 dX12_init_81 (by decide) ?_
  refine py_newI (N := 80) G0 hw (by decide +kernel) (by decide) (by decide) (Nat.le_of_ble_eq_true rfl) (Nat.le_of_ble_eq_true rfl) (Nat.le_of_ble_eq_true rfl) dX12_init_83 (fun q_154 L_155 f_156 H_157 hq_158 h_159 x_160 hw => ?_)
  have u_161 := hZ.un hq_158
  have nq_162 := hT.ne hq_158
  have ne_163 : h ≠ q_154 := py_ne_new h_152 hq_158
  have h_152 := h_152.all x_160
  have hZ := hZ.all x_160
  have hT := hT.all x_160
  obtain ⟨G_166, gx_164, hZ, ty_165, ee_166⟩ := hZ.arr (c := 49) (n := 80) (lo := (-2147483648)) (hi := 2147483647) u_161 (by decide) (by decide) h_159 (fun _ _ => rfl) (fun _ => rfl) (by decide) (by decide)
  have ty_12 := gx_164.ty ty_12 (by decide)
  have ty_29 := gx_164.ty ty_29 (by decide)
  have ty_46 := gx_164.ty ty_46 (by decide)
  have ty_63 := gx_164.ty ty_63 (by decide)
  have ty_80 := gx_164.ty ty_80 (by decide)
  have ty_97 := gx_164.ty ty_97 (by decide)
  have ty_114 := gx_164.ty ty_114 (by decide)
  have ty_131 := gx_164.ty ty_131 (by decide)
  have ty_148 := gx_164.ty ty_148 (by decide)
  have hX := hX.trans gx_164
  have uh := (ee_166 h ne_163).trans uh
  have hT := hT.ty ee_166 nq_162
  refine py_putF (C := RX12) (T := TX12) (N := 54) (k := 16) (v := .ref q_154) (fs' := [.int 0, .ref q_1, .int 0, .int 0, .int 0, .int 0, .ref q_18, .ref q_35, .ref q_52, .ref q_69, .ref q_86, .ref q_103, .ref q_120, .int 0, .int 0, .ref q_137, .ref q_154, .null, .null, .int 0, .int 0, .null, .null, .null, .int 0, .int 0, .null, .null, .null, .int 0, .long 0, .int 0, .int 0, .int 0, .int 0, .null, .null, .null, .null, .null, .null, .null, .null, .int 0, .null, .null, .null, .null, .long 0, .null, .null, .int 0, .long 0, .int 0]) (ty0 := tyX12) G0 hin hw tyX12_ok nmX12 in_X12_init_X12 rfl h_152 (by decide) (by decide +kernel) rfl rfl rfl rfl rfl (Nat.le_of_ble_eq_true rfl) rfl dX12_init_85 (fun f_167 H_168 locs h_169 x_170 hw => ?_)
  have hZ := hZ.unt uh x_170
  have hT := hT.ext x_170
  refine lv_aload_n G0.1 G0.2.1 dX12_init_88 rfl (lv_at hl 0 rfl) ?_
  refine lv_bipush (v := 32) G0.1 G0.2.1 dX12_init_89 (by decide) ?_
  refine py_newI (N := 32) G0 hw (by decide +kernel) (by decide) (by decide) (Nat.le_of_ble_eq_true rfl) (Nat.le_of_ble_eq_true rfl) (Nat.le_of_ble_eq_true rfl) dX12_init_91 (fun q_171 L_172 f_173 H_174 hq_175 h_176 x_177 hw => ?_)
  have u_178 := hZ.un hq_175
  have nq_179 := hT.ne hq_175
  have ne_180 : h ≠ q_171 := py_ne_new h_169 hq_175
  have h_169 := h_169.all x_177
  have hZ := hZ.all x_177
  have hT := hT.all x_177
  obtain ⟨G_183, gx_181, hZ, ty_182, ee_183⟩ := hZ.arr (c := 50) (n := 32) (lo := (-2147483648)) (hi := 2147483647) u_178 (by decide) (by decide) h_176 (fun _ _ => rfl) (fun _ => rfl) (by decide) (by decide)
  have ty_12 := gx_181.ty ty_12 (by decide)
  have ty_29 := gx_181.ty ty_29 (by decide)
  have ty_46 := gx_181.ty ty_46 (by decide)
  have ty_63 := gx_181.ty ty_63 (by decide)
  have ty_80 := gx_181.ty ty_80 (by decide)
  have ty_97 := gx_181.ty ty_97 (by decide)
  have ty_114 := gx_181.ty ty_114 (by decide)
  have ty_131 := gx_181.ty ty_131 (by decide)
  have ty_148 := gx_181.ty ty_148 (by decide)
  have ty_165 := gx_181.ty ty_165 (by decide)
  have hX := hX.trans gx_181
  have uh := (ee_183 h ne_180).trans uh
  have hT := hT.ty ee_183 nq_179
  refine py_putF (C := RX12) (T := TX12) (N := 54) (k := 17) (v := .ref q_171) (fs' := [.int 0, .ref q_1, .int 0, .int 0, .int 0, .int 0, .ref q_18, .ref q_35, .ref q_52, .ref q_69, .ref q_86, .ref q_103, .ref q_120, .int 0, .int 0, .ref q_137, .ref q_154, .ref q_171, .null, .int 0, .int 0, .null, .null, .null, .int 0, .int 0, .null, .null, .null, .int 0, .long 0, .int 0, .int 0, .int 0, .int 0, .null, .null, .null, .null, .null, .null, .null, .null, .int 0, .null, .null, .null, .null, .long 0, .null, .null, .int 0, .long 0, .int 0]) (ty0 := tyX12) G0 hin hw tyX12_ok nmX12 in_X12_init_X12 rfl h_169 (by decide) (by decide +kernel) rfl rfl rfl rfl rfl (Nat.le_of_ble_eq_true rfl) rfl dX12_init_93 (fun f_184 H_185 locs h_186 x_187 hw => ?_)
  have hZ := hZ.unt uh x_187
  have hT := hT.ext x_187
  refine lv_aload_n G0.1 G0.2.1 dX12_init_96 rfl (lv_at hl 0 rfl) ?_
  refine lv_bipush (v := 40) G0.1 G0.2.1 dX12_init_97 (by decide) ?_
  refine py_newI (N := 40) G0 hw (by decide +kernel) (by decide) (by decide) (Nat.le_of_ble_eq_true rfl) (Nat.le_of_ble_eq_true rfl) (Nat.le_of_ble_eq_true rfl) dX12_init_99 (fun q_188 L_189 f_190 H_191 hq_192 h_193 x_194 hw => ?_)
  have u_195 := hZ.un hq_192
  have nq_196 := hT.ne hq_192
  have ne_197 : h ≠ q_188 := py_ne_new h_186 hq_192
  have h_186 := h_186.all x_194
  have hZ := hZ.all x_194
  have hT := hT.all x_194
  obtain ⟨G_200, gx_198, hZ, ty_199, ee_200⟩ := hZ.arr (c := 51) (n := 40) (lo := (-2147483648)) (hi := 2147483647) u_195 (by decide) (by decide) h_193 (fun _ _ => rfl) (fun _ => rfl) (by decide) (by decide)
  have ty_12 := gx_198.ty ty_12 (by decide)
  have ty_29 := gx_198.ty ty_29 (by decide)
  have ty_46 := gx_198.ty ty_46 (by decide)
  have ty_63 := gx_198.ty ty_63 (by decide)
  have ty_80 := gx_198.ty ty_80 (by decide)
  have ty_97 := gx_198.ty ty_97 (by decide)
  have ty_114 := gx_198.ty ty_114 (by decide)
  have ty_131 := gx_198.ty ty_131 (by decide)
  have ty_148 := gx_198.ty ty_148 (by decide)
  have ty_165 := gx_198.ty ty_165 (by decide)
  have ty_182 := gx_198.ty ty_182 (by decide)
  have hX := hX.trans gx_198
  have uh := (ee_200 h ne_197).trans uh
  have hT := hT.ty ee_200 nq_196
  refine py_putF (C := RX12) (T := TX12) (N := 54) (k := 18) (v := .ref q_188) (fs' := [.int 0, .ref q_1, .int 0, .int 0, .int 0, .int 0, .ref q_18, .ref q_35, .ref q_52, .ref q_69, .ref q_86, .ref q_103, .ref q_120, .int 0, .int 0, .ref q_137, .ref q_154, .ref q_171, .ref q_188, .int 0, .int 0, .null, .null, .null, .int 0, .int 0, .null, .null, .null, .int 0, .long 0, .int 0, .int 0, .int 0, .int 0, .null, .null, .null, .null, .null, .null, .null, .null, .int 0, .null, .null, .null, .null, .long 0, .null, .null, .int 0, .long 0, .int 0]) (ty0 := tyX12) G0 hin hw tyX12_ok nmX12 in_X12_init_X12 rfl h_186 (by decide) (by decide +kernel) rfl rfl rfl rfl rfl (Nat.le_of_ble_eq_true rfl) rfl dX12_init_101 (fun f_201 H_202 locs h_203 x_204 hw => ?_)
  have hZ := hZ.unt uh x_204
  have hT := hT.ext x_204
  refine lv_aload_n G0.1 G0.2.1 dX12_init_104 rfl (lv_at hl 0 rfl) ?_
  refine lv_bipush (v := 32) G0.1 G0.2.1 dX12_init_105 (by decide) ?_
  refine py_newI (N := 32) G0 hw (by decide +kernel) (by decide) (by decide) (Nat.le_of_ble_eq_true rfl) (Nat.le_of_ble_eq_true rfl) (Nat.le_of_ble_eq_true rfl) dX12_init_107 (fun q_205 L_206 f_207 H_208 hq_209 h_210 x_211 hw => ?_)
  have u_212 := hZ.un hq_209
  have nq_213 := hT.ne hq_209
  have ne_214 : h ≠ q_205 := py_ne_new h_203 hq_209
  have h_203 := h_203.all x_211
  have hZ := hZ.all x_211
  have hT := hT.all x_211
  obtain ⟨G_217, gx_215, hZ, ty_216, ee_217⟩ := hZ.arr (c := 52) (n := 32) (lo := (-2147483648)) (hi := 2147483647) u_212 (by decide) (by decide) h_210 (fun _ _ => rfl) (fun _ => rfl) (by decide) (by decide)
  have ty_12 := gx_215.ty ty_12 (by decide)
  have ty_29 := gx_215.ty ty_29 (by decide)
  have ty_46 := gx_215.ty ty_46 (by decide)
  have ty_63 := gx_215.ty ty_63 (by decide)
  have ty_80 := gx_215.ty ty_80 (by decide)
  have ty_97 := gx_215.ty ty_97 (by decide)
  have ty_114 := gx_215.ty ty_114 (by decide)
  have ty_131 := gx_215.ty ty_131 (by decide)
  have ty_148 := gx_215.ty ty_148 (by decide)
  have ty_165 := gx_215.ty ty_165 (by decide)
  have ty_182 := gx_215.ty ty_182 (by decide)
  have ty_199 := gx_215.ty ty_199 (by decide)
  have hX := hX.trans gx_215
  have uh := (ee_217 h ne_214).trans uh
  have hT := hT.ty ee_217 nq_213
  refine py_putF (C := RX12) (T := TX12) (N := 54) (k := 21) (v := .ref q_205) (fs' := [.int 0, .ref q_1, .int 0, .int 0, .int 0, .int 0, .ref q_18, .ref q_35, .ref q_52, .ref q_69, .ref q_86, .ref q_103, .ref q_120, .int 0, .int 0, .ref q_137, .ref q_154, .ref q_171, .ref q_188, .int 0, .int 0, .ref q_205, .null, .null, .int 0, .int 0, .null, .null, .null, .int 0, .long 0, .int 0, .int 0, .int 0, .int 0, .null, .null, .null, .null, .null, .null, .null, .null, .int 0, .null, .null, .null, .null, .long 0, .null, .null, .int 0, .long 0, .int 0]) (ty0 := tyX12) G0 hin hw tyX12_ok nmX12 in_X12_init_X12 rfl h_203 (by decide) (by decide +kernel) rfl rfl rfl rfl rfl (Nat.le_of_ble_eq_true rfl) rfl dX12_init_109 (fun f_218 H_219 locs h_220 x_221 hw => ?_)
  have hZ := hZ.unt uh x_221
  have hT := hT.ext x_221
  refine lv_aload_n G0.1 G0.2.1 dX12_init_112 rfl (lv_at hl 0 rfl) ?_
  refine lv_bipush (v := 10) G0.1 G0.2.1 dX12_init_113 (by decide) ?_
  refine py_newI (N := 10) G0 hw (by decide +kernel) (by decide) (by decide) (Nat.le_of_ble_eq_true rfl) (Nat.le_of_ble_eq_true rfl) (Nat.le_of_ble_eq_true rfl) dX12_init_115 (fun q_222 L_223 f_224 H_225 hq_226 h_227 x_228 hw => ?_)
  have u_229 := hZ.un hq_226
  have nq_230 := hT.ne hq_226
  have ne_231 : h ≠ q_222 := py_ne_new h_220 hq_226
  have h_220 := h_220.all x_228
  have hZ := hZ.all x_228
  have hT := hT.all x_228
  obtain ⟨G_234, gx_232, hZ, ty_233, ee_234⟩ := hZ.arr (c := 53) (n := 10) (lo := (-2147483648)) (hi := 2147483647) u_229 (by decide) (by decide) h_227 (fun _ _ => rfl) (fun _ => rfl) (by decide) (by decide)
  have ty_12 := gx_232.ty ty_12 (by decide)
  have ty_29 := gx_232.ty ty_29 (by decide)
  have ty_46 := gx_232.ty ty_46 (by decide)
  have ty_63 := gx_232.ty ty_63 (by decide)
  have ty_80 := gx_232.ty ty_80 (by decide)
  have ty_97 := gx_232.ty ty_97 (by decide)
  have ty_114 := gx_232.ty ty_114 (by decide)
  have ty_131 := gx_232.ty ty_131 (by decide)
  have ty_148 := gx_232.ty ty_148 (by decide)
  have ty_165 := gx_232.ty ty_165 (by decide)
  have ty_182 := gx_232.ty ty_182 (by decide)
  have ty_199 := gx_232.ty ty_199 (by decide)
  have ty_216 := gx_232.ty ty_216 (by decide)
  have hX := hX.trans gx_232
  have uh := (ee_234 h ne_231).trans uh
  have hT := hT.ty ee_234 nq_230
  refine py_putF (C := RX12) (T := TX12) (N := 54) (k := 22) (v := .ref q_222) (fs' := [.int 0, .ref q_1, .int 0, .int 0, .int 0, .int 0, .ref q_18, .ref q_35, .ref q_52, .ref q_69, .ref q_86, .ref q_103, .ref q_120, .int 0, .int 0, .ref q_137, .ref q_154, .ref q_171, .ref q_188, .int 0, .int 0, .ref q_205, .ref q_222, .null, .int 0, .int 0, .null, .null, .null, .int 0, .long 0, .int 0, .int 0, .int 0, .int 0, .null, .null, .null, .null, .null, .null, .null, .null, .int 0, .null, .null, .null, .null, .long 0, .null, .null, .int 0, .long 0, .int 0]) (ty0 := tyX12) G0 hin hw tyX12_ok nmX12 in_X12_init_X12 rfl h_220 (by decide) (by decide +kernel) rfl rfl rfl rfl rfl (Nat.le_of_ble_eq_true rfl) rfl dX12_init_117 (fun f_235 H_236 locs h_237 x_238 hw => ?_)
  have hZ := hZ.unt uh x_238
  have hT := hT.ext x_238
  refine lv_aload_n G0.1 G0.2.1 dX12_init_120 rfl (lv_at hl 0 rfl) ?_
  refine lv_bipush (v := 10) G0.1 G0.2.1 dX12_init_121 (by decide) ?_
  refine py_newI (N := 10) G0 hw (by decide +kernel) (by decide) (by decide) (Nat.le_of_ble_eq_true rfl) (Nat.le_of_ble_eq_true rfl) (Nat.le_of_ble_eq_true rfl) dX12_init_123 (fun q_239 L_240 f_241 H_242 hq_243 h_244 x_245 hw => ?_)
  have u_246 := hZ.un hq_243
  have nq_247 := hT.ne hq_243
  have ne_248 : h ≠ q_239 := py_ne_new h_237 hq_243
  have h_237 := h_237.all x_245
  have hZ := hZ.all x_245
  have hT := hT.all x_245
  obtain ⟨G_251, gx_249, hZ, ty_250, ee_251⟩ := hZ.arr (c := 54) (n := 10) (lo := (-2147483648)) (hi := 2147483647) u_246 (by decide) (by decide) h_244 (fun _ _ => rfl) (fun _ => rfl) (by decide) (by decide)
  have ty_12 := gx_249.ty ty_12 (by decide)
  have ty_29 := gx_249.ty ty_29 (by decide)
  have ty_46 := gx_249.ty ty_46 (by decide)
  have ty_63 := gx_249.ty ty_63 (by decide)
  have ty_80 := gx_249.ty ty_80 (by decide)
  have ty_97 := gx_249.ty ty_97 (by decide)
  have ty_114 := gx_249.ty ty_114 (by decide)
  have ty_131 := gx_249.ty ty_131 (by decide)
  have ty_148 := gx_249.ty ty_148 (by decide)
  have ty_165 := gx_249.ty ty_165 (by decide)
  have ty_182 := gx_249.ty ty_182 (by decide)
  have ty_199 := gx_249.ty ty_199 (by decide)
  have ty_216 := gx_249.ty ty_216 (by decide)
  have ty_233 := gx_249.ty ty_233 (by decide)
  have hX := hX.trans gx_249
  have uh := (ee_251 h ne_248).trans uh
  have hT := hT.ty ee_251 nq_247
  refine py_putF (C := RX12) (T := TX12) (N := 54) (k := 23) (v := .ref q_239) (fs' := [.int 0, .ref q_1, .int 0, .int 0, .int 0, .int 0, .ref q_18, .ref q_35, .ref q_52, .ref q_69, .ref q_86, .ref q_103, .ref q_120, .int 0, .int 0, .ref q_137, .ref q_154, .ref q_171, .ref q_188, .int 0, .int 0, .ref q_205, .ref q_222, .ref q_239, .int 0, .int 0, .null, .null, .null, .int 0, .long 0, .int 0, .int 0, .int 0, .int 0, .null, .null, .null, .null, .null, .null, .null, .null, .int 0, .null, .null, .null, .null, .long 0, .null, .null, .int 0, .long 0, .int 0]) (ty0 := tyX12) G0 hin hw tyX12_ok nmX12 in_X12_init_X12 rfl h_237 (by decide) (by decide +kernel) rfl rfl rfl rfl rfl (Nat.le_of_ble_eq_true rfl) rfl dX12_init_125 (fun f_252 H_253 locs h_254 x_255 hw => ?_)
  have hZ := hZ.unt uh x_255
  have hT := hT.ext x_255
  refine lv_aload_n G0.1 G0.2.1 dX12_init_128 rfl (lv_at hl 0 rfl) ?_
  refine lv_bipush (v := 90) G0.1 G0.2.1 dX12_init_129 (by decide) ?_
  refine py_newI (N := 90) G0 hw (by decide +kernel) (by decide) (by decide) (Nat.le_of_ble_eq_true rfl) (Nat.le_of_ble_eq_true rfl) (Nat.le_of_ble_eq_true rfl) dX12_init_131 (fun q_256 L_257 f_258 H_259 hq_260 h_261 x_262 hw => ?_)
  have u_263 := hZ.un hq_260
  have nq_264 := hT.ne hq_260
  have ne_265 : h ≠ q_256 := py_ne_new h_254 hq_260
  have h_254 := h_254.all x_262
  have hZ := hZ.all x_262
  have hT := hT.all x_262
  obtain ⟨G_268, gx_266, hZ, ty_267, ee_268⟩ := hZ.arrK (c := 55) u_263 (by decide) (by decide) h_261 (fun _ => ⟨_, rfl, fun i _ => by decide⟩) (fun _ => rfl)
  have ty_12 := gx_266.ty ty_12 (by decide)
  have ty_29 := gx_266.ty ty_29 (by decide)
  have ty_46 := gx_266.ty ty_46 (by decide)
  have ty_63 := gx_266.ty ty_63 (by decide)
  have ty_80 := gx_266.ty ty_80 (by decide)
  have ty_97 := gx_266.ty ty_97 (by decide)
  have ty_114 := gx_266.ty ty_114 (by decide)
  have ty_131 := gx_266.ty ty_131 (by decide)
  have ty_148 := gx_266.ty ty_148 (by decide)
  have ty_165 := gx_266.ty ty_165 (by decide)
  have ty_182 := gx_266.ty ty_182 (by decide)
  have ty_199 := gx_266.ty ty_199 (by decide)
  have ty_216 := gx_266.ty ty_216 (by decide)
  have ty_233 := gx_266.ty ty_233 (by decide)
  have ty_250 := gx_266.ty ty_250 (by decide)
  have hX := hX.trans gx_266
  have uh := (ee_268 h ne_265).trans uh
  have hT := hT.ty ee_268 nq_264
  refine py_putF (C := RX12) (T := TX12) (N := 54) (k := 26) (v := .ref q_256) (fs' := [.int 0, .ref q_1, .int 0, .int 0, .int 0, .int 0, .ref q_18, .ref q_35, .ref q_52, .ref q_69, .ref q_86, .ref q_103, .ref q_120, .int 0, .int 0, .ref q_137, .ref q_154, .ref q_171, .ref q_188, .int 0, .int 0, .ref q_205, .ref q_222, .ref q_239, .int 0, .int 0, .ref q_256, .null, .null, .int 0, .long 0, .int 0, .int 0, .int 0, .int 0, .null, .null, .null, .null, .null, .null, .null, .null, .int 0, .null, .null, .null, .null, .long 0, .null, .null, .int 0, .long 0, .int 0]) (ty0 := tyX12) G0 hin hw tyX12_ok nmX12 in_X12_init_X12 rfl h_254 (by decide) (by decide +kernel) rfl rfl rfl rfl rfl (Nat.le_of_ble_eq_true rfl) rfl dX12_init_133 (fun f_269 H_270 locs h_271 x_272 hw => ?_)
  have hZ := hZ.unt uh x_272
  have hT := hT.ext x_272
  refine lv_aload_n G0.1 G0.2.1 dX12_init_136 rfl (lv_at hl 0 rfl) ?_
  refine lv_bipush (v := 90) G0.1 G0.2.1 dX12_init_137 (by decide) ?_
  refine py_newI (N := 90) G0 hw (by decide +kernel) (by decide) (by decide) (Nat.le_of_ble_eq_true rfl) (Nat.le_of_ble_eq_true rfl) (Nat.le_of_ble_eq_true rfl) dX12_init_139 (fun q_273 L_274 f_275 H_276 hq_277 h_278 x_279 hw => ?_)
  have u_280 := hZ.un hq_277
  have nq_281 := hT.ne hq_277
  have ne_282 : h ≠ q_273 := py_ne_new h_271 hq_277
  have h_271 := h_271.all x_279
  have hZ := hZ.all x_279
  have hT := hT.all x_279
  obtain ⟨G_285, gx_283, hZ, ty_284, ee_285⟩ := hZ.arrK (c := 56) u_280 (by decide) (by decide) h_278 (fun _ => ⟨_, rfl, fun i _ => by decide⟩) (fun _ => rfl)
  have ty_12 := gx_283.ty ty_12 (by decide)
  have ty_29 := gx_283.ty ty_29 (by decide)
  have ty_46 := gx_283.ty ty_46 (by decide)
  have ty_63 := gx_283.ty ty_63 (by decide)
  have ty_80 := gx_283.ty ty_80 (by decide)
  have ty_97 := gx_283.ty ty_97 (by decide)
  have ty_114 := gx_283.ty ty_114 (by decide)
  have ty_131 := gx_283.ty ty_131 (by decide)
  have ty_148 := gx_283.ty ty_148 (by decide)
  have ty_165 := gx_283.ty ty_165 (by decide)
  have ty_182 := gx_283.ty ty_182 (by decide)
  have ty_199 := gx_283.ty ty_199 (by decide)
  have ty_216 := gx_283.ty ty_216 (by decide)
  have ty_233 := gx_283.ty ty_233 (by decide)
  have ty_250 := gx_283.ty ty_250 (by decide)
  have ty_267 := gx_283.ty ty_267 (by decide)
  have hX := hX.trans gx_283
  have uh := (ee_285 h ne_282).trans uh
  have hT := hT.ty ee_285 nq_281
  refine py_putF (C := RX12) (T := TX12) (N := 54) (k := 27) (v := .ref q_273) (fs' := [.int 0, .ref q_1, .int 0, .int 0, .int 0, .int 0, .ref q_18, .ref q_35, .ref q_52, .ref q_69, .ref q_86, .ref q_103, .ref q_120, .int 0, .int 0, .ref q_137, .ref q_154, .ref q_171, .ref q_188, .int 0, .int 0, .ref q_205, .ref q_222, .ref q_239, .int 0, .int 0, .ref q_256, .ref q_273, .null, .int 0, .long 0, .int 0, .int 0, .int 0, .int 0, .null, .null, .null, .null, .null, .null, .null, .null, .int 0, .null, .null, .null, .null, .long 0, .null, .null, .int 0, .long 0, .int 0]) (ty0 := tyX12) G0 hin hw tyX12_ok nmX12 in_X12_init_X12 rfl h_271 (by decide) (by decide +kernel) rfl rfl rfl rfl rfl (Nat.le_of_ble_eq_true rfl) rfl dX12_init_141 (fun f_286 H_287 locs h_288 x_289 hw => ?_)
  have hZ := hZ.unt uh x_289
  have hT := hT.ext x_289
  refine lv_aload_n G0.1 G0.2.1 dX12_init_144 rfl (lv_at hl 0 rfl) ?_
  refine lv_bipush (v := 90) G0.1 G0.2.1 dX12_init_145 (by decide) ?_
  refine py_newI (N := 90) G0 hw (by decide +kernel) (by decide) (by decide) (Nat.le_of_ble_eq_true rfl) (Nat.le_of_ble_eq_true rfl) (Nat.le_of_ble_eq_true rfl) dX12_init_147 (fun q_290 L_291 f_292 H_293 hq_294 h_295 x_296 hw => ?_)
  have u_297 := hZ.un hq_294
  have nq_298 := hT.ne hq_294
  have ne_299 : h ≠ q_290 := py_ne_new h_288 hq_294
  have h_288 := h_288.all x_296
  have hZ := hZ.all x_296
  have hT := hT.all x_296
  obtain ⟨G_302, gx_300, hZ, ty_301, ee_302⟩ := hZ.arrK (c := 57) u_297 (by decide) (by decide) h_295 (fun _ => ⟨_, rfl, fun i _ => by decide⟩) (fun _ => rfl)
  have ty_12 := gx_300.ty ty_12 (by decide)
  have ty_29 := gx_300.ty ty_29 (by decide)
  have ty_46 := gx_300.ty ty_46 (by decide)
  have ty_63 := gx_300.ty ty_63 (by decide)
  have ty_80 := gx_300.ty ty_80 (by decide)
  have ty_97 := gx_300.ty ty_97 (by decide)
  have ty_114 := gx_300.ty ty_114 (by decide)
  have ty_131 := gx_300.ty ty_131 (by decide)
  have ty_148 := gx_300.ty ty_148 (by decide)
  have ty_165 := gx_300.ty ty_165 (by decide)
  have ty_182 := gx_300.ty ty_182 (by decide)
  have ty_199 := gx_300.ty ty_199 (by decide)
  have ty_216 := gx_300.ty ty_216 (by decide)
  have ty_233 := gx_300.ty ty_233 (by decide)
  have ty_250 := gx_300.ty ty_250 (by decide)
  have ty_267 := gx_300.ty ty_267 (by decide)
  have ty_284 := gx_300.ty ty_284 (by decide)
  have hX := hX.trans gx_300
  have uh := (ee_302 h ne_299).trans uh
  have hT := hT.ty ee_302 nq_298
  refine py_putF (C := RX12) (T := TX12) (N := 54) (k := 28) (v := .ref q_290) (fs' := [.int 0, .ref q_1, .int 0, .int 0, .int 0, .int 0, .ref q_18, .ref q_35, .ref q_52, .ref q_69, .ref q_86, .ref q_103, .ref q_120, .int 0, .int 0, .ref q_137, .ref q_154, .ref q_171, .ref q_188, .int 0, .int 0, .ref q_205, .ref q_222, .ref q_239, .int 0, .int 0, .ref q_256, .ref q_273, .ref q_290, .int 0, .long 0, .int 0, .int 0, .int 0, .int 0, .null, .null, .null, .null, .null, .null, .null, .null, .int 0, .null, .null, .null, .null, .long 0, .null, .null, .int 0, .long 0, .int 0]) (ty0 := tyX12) G0 hin hw tyX12_ok nmX12 in_X12_init_X12 rfl h_288 (by decide) (by decide +kernel) rfl rfl rfl rfl rfl (Nat.le_of_ble_eq_true rfl) rfl dX12_init_149 (fun f_303 H_304 locs h_305 x_306 hw => ?_)
  have hZ := hZ.unt uh x_306
  have hT := hT.ext x_306
  refine lv_aload_n G0.1 G0.2.1 dX12_init_152 rfl (lv_at hl 0 rfl) ?_
  refine lv_iconst (v := (-1)) G0.1 G0.2.1 dX12_init_153 (by decide) ?_
  refine py_put (C := RX12) (T := TX12) (N := 54) (k := 31) (v := .int (-1)) (fs' := [.int 0, .ref q_1, .int 0, .int 0, .int 0, .int 0, .ref q_18, .ref q_35, .ref q_52, .ref q_69, .ref q_86, .ref q_103, .ref q_120, .int 0, .int 0, .ref q_137, .ref q_154, .ref q_171, .ref q_188, .int 0, .int 0, .ref q_205, .ref q_222, .ref q_239, .int 0, .int 0, .ref q_256, .ref q_273, .ref q_290, .int 0, .long 0, .int (-1), .int 0, .int 0, .int 0, .null, .null, .null, .null, .null, .null, .null, .null, .int 0, .null, .null, .null, .null, .long 0, .null, .null, .int 0, .long 0, .int 0]) (ty0 := tyX12) G0 hw tyX12_ok nmX12 in_X12_init_X12 rfl h_305 (by decide) (by decide +kernel) rfl rfl rfl rfl (Nat.le_of_ble_eq_true rfl) rfl dX12_init_154 (fun f_307 H_308 locs h_309 x_310 hw => ?_)
  have hZ := hZ.unt uh x_310
  have hT := hT.ext x_310
  refine lv_aload_n G0.1 G0.2.1 dX12_init_157 rfl (lv_at hl 0 rfl) ?_
  refine lv_bipush (v := 50) G0.1 G0.2.1 dX12_init_158 (by decide) ?_
  refine py_put (C := RX12) (T := TX12) (N := 54) (k := 32) (v := .int 50) (fs' := [.int 0, .ref q_1, .int 0, .int 0, .int 0, .int 0, .ref q_18, .ref q_35, .ref q_52, .ref q_69, .ref q_86, .ref q_103, .ref q_120, .int 0, .int 0, .ref q_137, .ref q_154, .ref q_171, .ref q_188, .int 0, .int 0, .ref q_205, .ref q_222, .ref q_239, .int 0, .int 0, .ref q_256, .ref q_273, .ref q_290, .int 0, .long 0, .int (-1), .int 50, .int 0, .int 0, .null, .null, .null, .null, .null, .null, .null, .null, .int 0, .null, .null, .null, .null, .long 0, .null, .null, .int 0, .long 0, .int 0]) (ty0 := tyX12) G0 hw tyX12_ok nmX12 in_X12_init_X12 rfl h_309 (by decide) (by decide +kernel) rfl rfl rfl rfl (Nat.le_of_ble_eq_true rfl) rfl dX12_init_160 (fun f_311 H_312 locs h_313 x_314 hw => ?_)
  have hZ := hZ.unt uh x_314
  have hT := hT.ext x_314
  refine lv_aload_n G0.1 G0.2.1 dX12_init_163 rfl (lv_at hl 0 rfl) ?_
  refine lv_bipush (v := 10) G0.1 G0.2.1 dX12_init_164 (by decide) ?_
  refine py_put (C := RX12) (T := TX12) (N := 54) (k := 34) (v := .int 10) (fs' := [.int 0, .ref q_1, .int 0, .int 0, .int 0, .int 0, .ref q_18, .ref q_35, .ref q_52, .ref q_69, .ref q_86, .ref q_103, .ref q_120, .int 0, .int 0, .ref q_137, .ref q_154, .ref q_171, .ref q_188, .int 0, .int 0, .ref q_205, .ref q_222, .ref q_239, .int 0, .int 0, .ref q_256, .ref q_273, .ref q_290, .int 0, .long 0, .int (-1), .int 50, .int 0, .int 10, .null, .null, .null, .null, .null, .null, .null, .null, .int 0, .null, .null, .null, .null, .long 0, .null, .null, .int 0, .long 0, .int 0]) (ty0 := tyX12) G0 hw tyX12_ok nmX12 in_X12_init_X12 rfl h_313 (by decide) (by decide +kernel) rfl rfl rfl rfl (Nat.le_of_ble_eq_true rfl) rfl dX12_init_166 (fun f_315 H_316 locs h_317 x_318 hw => ?_)
  have hZ := hZ.unt uh x_318
  have hT := hT.ext x_318
  refine lv_aload_n G0.1 G0.2.1 dX12_init_169 rfl (lv_at hl 0 rfl) ?_
  refine lv_bipush (v := 8) G0.1 G0.2.1 dX12_init_170 (by decide) ?_
  refine py_newI (N := 8) G0 hw (by decide +kernel) (by decide) (by decide) (Nat.le_of_ble_eq_true rfl) (Nat.le_of_ble_eq_true rfl) (Nat.le_of_ble_eq_true rfl) dX12_init_172 (fun q_319 L_320 f_321 H_322 hq_323 h_324 x_325 hw => ?_)
  have u_326 := hZ.un hq_323
  have nq_327 := hT.ne hq_323
  have ne_328 : h ≠ q_319 := py_ne_new h_317 hq_323
  have h_317 := h_317.all x_325
  have hZ := hZ.all x_325
  have hT := hT.all x_325
  obtain ⟨G_331, gx_329, hZ, ty_330, ee_331⟩ := hZ.arr (c := 58) (n := 8) (lo := (-2147483648)) (hi := 2147483647) u_326 (by decide) (by decide) h_324 (fun _ _ => rfl) (fun _ => rfl) (by decide) (by decide)
  have ty_12 := gx_329.ty ty_12 (by decide)
  have ty_29 := gx_329.ty ty_29 (by decide)
  have ty_46 := gx_329.ty ty_46 (by decide)
  have ty_63 := gx_329.ty ty_63 (by decide)
  have ty_80 := gx_329.ty ty_80 (by decide)
  have ty_97 := gx_329.ty ty_97 (by decide)
  have ty_114 := gx_329.ty ty_114 (by decide)
  have ty_131 := gx_329.ty ty_131 (by decide)
  have ty_148 := gx_329.ty ty_148 (by decide)
  have ty_165 := gx_329.ty ty_165 (by decide)
  have ty_182 := gx_329.ty ty_182 (by decide)
  have ty_199 := gx_329.ty ty_199 (by decide)
  have ty_216 := gx_329.ty ty_216 (by decide)
  have ty_233 := gx_329.ty ty_233 (by decide)
  have ty_250 := gx_329.ty ty_250 (by decide)
  have ty_267 := gx_329.ty ty_267 (by decide)
  have ty_284 := gx_329.ty ty_284 (by decide)
  have ty_301 := gx_329.ty ty_301 (by decide)
  have hX := hX.trans gx_329
  have uh := (ee_331 h ne_328).trans uh
  have hT := hT.ty ee_331 nq_327
  refine py_putF (C := RX12) (T := TX12) (N := 54) (k := 35) (v := .ref q_319) (fs' := [.int 0, .ref q_1, .int 0, .int 0, .int 0, .int 0, .ref q_18, .ref q_35, .ref q_52, .ref q_69, .ref q_86, .ref q_103, .ref q_120, .int 0, .int 0, .ref q_137, .ref q_154, .ref q_171, .ref q_188, .int 0, .int 0, .ref q_205, .ref q_222, .ref q_239, .int 0, .int 0, .ref q_256, .ref q_273, .ref q_290, .int 0, .long 0, .int (-1), .int 50, .int 0, .int 10, .ref q_319, .null, .null, .null, .null, .null, .null, .null, .int 0, .null, .null, .null, .null, .long 0, .null, .null, .int 0, .long 0, .int 0]) (ty0 := tyX12) G0 hin hw tyX12_ok nmX12 in_X12_init_X12 rfl h_317 (by decide) (by decide +kernel) rfl rfl rfl rfl rfl (Nat.le_of_ble_eq_true rfl) rfl dX12_init_174 (fun f_332 H_333 locs h_334 x_335 hw => ?_)
  have hZ := hZ.unt uh x_335
  have hT := hT.ext x_335
  refine lv_aload_n G0.1 G0.2.1 dX12_init_177 rfl (lv_at hl 0 rfl) ?_
  refine lv_bipush (v := 10) G0.1 G0.2.1 dX12_init_178 (by decide) ?_
  refine py_newI (N := 10) G0 hw (by decide +kernel) (by decide) (by decide) (Nat.le_of_ble_eq_true rfl) (Nat.le_of_ble_eq_true rfl) (Nat.le_of_ble_eq_true rfl) dX12_init_180 (fun q_336 L_337 f_338 H_339 hq_340 h_341 x_342 hw => ?_)
  have u_343 := hZ.un hq_340
  have nq_344 := hT.ne hq_340
  have ne_345 : h ≠ q_336 := py_ne_new h_334 hq_340
  have h_334 := h_334.all x_342
  have hZ := hZ.all x_342
  have hT := hT.all x_342
  obtain ⟨G_348, gx_346, hZ, ty_347, ee_348⟩ := hZ.arr (c := 59) (n := 10) (lo := (-1)) (hi := 7) u_343 (by decide) (by decide) h_341 (fun _ _ => rfl) (fun _ => rfl) (by decide) (by decide)
  have ty_12 := gx_346.ty ty_12 (by decide)
  have ty_29 := gx_346.ty ty_29 (by decide)
  have ty_46 := gx_346.ty ty_46 (by decide)
  have ty_63 := gx_346.ty ty_63 (by decide)
  have ty_80 := gx_346.ty ty_80 (by decide)
  have ty_97 := gx_346.ty ty_97 (by decide)
  have ty_114 := gx_346.ty ty_114 (by decide)
  have ty_131 := gx_346.ty ty_131 (by decide)
  have ty_148 := gx_346.ty ty_148 (by decide)
  have ty_165 := gx_346.ty ty_165 (by decide)
  have ty_182 := gx_346.ty ty_182 (by decide)
  have ty_199 := gx_346.ty ty_199 (by decide)
  have ty_216 := gx_346.ty ty_216 (by decide)
  have ty_233 := gx_346.ty ty_233 (by decide)
  have ty_250 := gx_346.ty ty_250 (by decide)
  have ty_267 := gx_346.ty ty_267 (by decide)
  have ty_284 := gx_346.ty ty_284 (by decide)
  have ty_301 := gx_346.ty ty_301 (by decide)
  have ty_330 := gx_346.ty ty_330 (by decide)
  have hX := hX.trans gx_346
  have uh := (ee_348 h ne_345).trans uh
  have hT := hT.ty ee_348 nq_344
  refine py_putF (C := RX12) (T := TX12) (N := 54) (k := 36) (v := .ref q_336) (fs' := [.int 0, .ref q_1, .int 0, .int 0, .int 0, .int 0, .ref q_18, .ref q_35, .ref q_52, .ref q_69, .ref q_86, .ref q_103, .ref q_120, .int 0, .int 0, .ref q_137, .ref q_154, .ref q_171, .ref q_188, .int 0, .int 0, .ref q_205, .ref q_222, .ref q_239, .int 0, .int 0, .ref q_256, .ref q_273, .ref q_290, .int 0, .long 0, .int (-1), .int 50, .int 0, .int 10, .ref q_319, .ref q_336, .null, .null, .null, .null, .null, .null, .int 0, .null, .null, .null, .null, .long 0, .null, .null, .int 0, .long 0, .int 0]) (ty0 := tyX12) G0 hin hw tyX12_ok nmX12 in_X12_init_X12 rfl h_334 (by decide) (by decide +kernel) rfl rfl rfl rfl rfl (Nat.le_of_ble_eq_true rfl) rfl dX12_init_182 (fun f_349 H_350 locs h_351 x_352 hw => ?_)
  have hZ := hZ.unt uh x_352
  have hT := hT.ext x_352
  refine lv_aload_n G0.1 G0.2.1 dX12_init_185 rfl (lv_at hl 0 rfl) ?_
  refine lv_bipush (v := 10) G0.1 G0.2.1 dX12_init_186 (by decide) ?_
  refine py_newI (N := 10) G0 hw (by decide +kernel) (by decide) (by decide) (Nat.le_of_ble_eq_true rfl) (Nat.le_of_ble_eq_true rfl) (Nat.le_of_ble_eq_true rfl) dX12_init_188 (fun q_353 L_354 f_355 H_356 hq_357 h_358 x_359 hw => ?_)
  have u_360 := hZ.un hq_357
  have nq_361 := hT.ne hq_357
  have ne_362 : h ≠ q_353 := py_ne_new h_351 hq_357
  have h_351 := h_351.all x_359
  have hZ := hZ.all x_359
  have hT := hT.all x_359
  obtain ⟨G_365, gx_363, hZ, ty_364, ee_365⟩ := hZ.arr (c := 60) (n := 10) (lo := (-2147483648)) (hi := 2147483647) u_360 (by decide) (by decide) h_358 (fun _ _ => rfl) (fun _ => rfl) (by decide) (by decide)
  have ty_12 := gx_363.ty ty_12 (by decide)
  have ty_29 := gx_363.ty ty_29 (by decide)
  have ty_46 := gx_363.ty ty_46 (by decide)
  have ty_63 := gx_363.ty ty_63 (by decide)
  have ty_80 := gx_363.ty ty_80 (by decide)
  have ty_97 := gx_363.ty ty_97 (by decide)
  have ty_114 := gx_363.ty ty_114 (by decide)
  have ty_131 := gx_363.ty ty_131 (by decide)
  have ty_148 := gx_363.ty ty_148 (by decide)
  have ty_165 := gx_363.ty ty_165 (by decide)
  have ty_182 := gx_363.ty ty_182 (by decide)
  have ty_199 := gx_363.ty ty_199 (by decide)
  have ty_216 := gx_363.ty ty_216 (by decide)
  have ty_233 := gx_363.ty ty_233 (by decide)
  have ty_250 := gx_363.ty ty_250 (by decide)
  have ty_267 := gx_363.ty ty_267 (by decide)
  have ty_284 := gx_363.ty ty_284 (by decide)
  have ty_301 := gx_363.ty ty_301 (by decide)
  have ty_330 := gx_363.ty ty_330 (by decide)
  have ty_347 := gx_363.ty ty_347 (by decide)
  have hX := hX.trans gx_363
  have uh := (ee_365 h ne_362).trans uh
  have hT := hT.ty ee_365 nq_361
  refine py_putF (C := RX12) (T := TX12) (N := 54) (k := 37) (v := .ref q_353) (fs' := [.int 0, .ref q_1, .int 0, .int 0, .int 0, .int 0, .ref q_18, .ref q_35, .ref q_52, .ref q_69, .ref q_86, .ref q_103, .ref q_120, .int 0, .int 0, .ref q_137, .ref q_154, .ref q_171, .ref q_188, .int 0, .int 0, .ref q_205, .ref q_222, .ref q_239, .int 0, .int 0, .ref q_256, .ref q_273, .ref q_290, .int 0, .long 0, .int (-1), .int 50, .int 0, .int 10, .ref q_319, .ref q_336, .ref q_353, .null, .null, .null, .null, .null, .int 0, .null, .null, .null, .null, .long 0, .null, .null, .int 0, .long 0, .int 0]) (ty0 := tyX12) G0 hin hw tyX12_ok nmX12 in_X12_init_X12 rfl h_351 (by decide) (by decide +kernel) rfl rfl rfl rfl rfl (Nat.le_of_ble_eq_true rfl) rfl dX12_init_190 (fun f_366 H_367 locs h_368 x_369 hw => ?_)
  have hZ := hZ.unt uh x_369
  have hT := hT.ext x_369
  refine lv_aload_n G0.1 G0.2.1 dX12_init_193 rfl (lv_at hl 0 rfl) ?_
  refine lv_sipush (v := 600) G0.1 G0.2.1 dX12_init_194 (by decide) ?_
  refine py_newI (N := 600) G0 hw (by decide +kernel) (by decide) (by decide) (Nat.le_of_ble_eq_true rfl) (Nat.le_of_ble_eq_true rfl) (Nat.le_of_ble_eq_true rfl) dX12_init_197 (fun q_370 L_371 f_372 H_373 hq_374 h_375 x_376 hw => ?_)
  have u_377 := hZ.un hq_374
  have nq_378 := hT.ne hq_374
  have ne_379 : h ≠ q_370 := py_ne_new h_368 hq_374
  have h_368 := h_368.all x_376
  have hZ := hZ.all x_376
  have hT := hT.all x_376
  obtain ⟨G_382, gx_380, hZ, ty_381, ee_382⟩ := hZ.arr (c := 61) (n := 600) (lo := (-2147483648)) (hi := 2147483647) u_377 (by decide) (by decide) h_375 (fun _ _ => rfl) (fun _ => rfl) (by decide) (by decide)
  have ty_12 := gx_380.ty ty_12 (by decide)
  have ty_29 := gx_380.ty ty_29 (by decide)
  have ty_46 := gx_380.ty ty_46 (by decide)
  have ty_63 := gx_380.ty ty_63 (by decide)
  have ty_80 := gx_380.ty ty_80 (by decide)
  have ty_97 := gx_380.ty ty_97 (by decide)
  have ty_114 := gx_380.ty ty_114 (by decide)
  have ty_131 := gx_380.ty ty_131 (by decide)
  have ty_148 := gx_380.ty ty_148 (by decide)
  have ty_165 := gx_380.ty ty_165 (by decide)
  have ty_182 := gx_380.ty ty_182 (by decide)
  have ty_199 := gx_380.ty ty_199 (by decide)
  have ty_216 := gx_380.ty ty_216 (by decide)
  have ty_233 := gx_380.ty ty_233 (by decide)
  have ty_250 := gx_380.ty ty_250 (by decide)
  have ty_267 := gx_380.ty ty_267 (by decide)
  have ty_284 := gx_380.ty ty_284 (by decide)
  have ty_301 := gx_380.ty ty_301 (by decide)
  have ty_330 := gx_380.ty ty_330 (by decide)
  have ty_347 := gx_380.ty ty_347 (by decide)
  have ty_364 := gx_380.ty ty_364 (by decide)
  have hX := hX.trans gx_380
  have uh := (ee_382 h ne_379).trans uh
  have hT := hT.ty ee_382 nq_378
  refine py_putF (C := RX12) (T := TX12) (N := 54) (k := 38) (v := .ref q_370) (fs' := [.int 0, .ref q_1, .int 0, .int 0, .int 0, .int 0, .ref q_18, .ref q_35, .ref q_52, .ref q_69, .ref q_86, .ref q_103, .ref q_120, .int 0, .int 0, .ref q_137, .ref q_154, .ref q_171, .ref q_188, .int 0, .int 0, .ref q_205, .ref q_222, .ref q_239, .int 0, .int 0, .ref q_256, .ref q_273, .ref q_290, .int 0, .long 0, .int (-1), .int 50, .int 0, .int 10, .ref q_319, .ref q_336, .ref q_353, .ref q_370, .null, .null, .null, .null, .int 0, .null, .null, .null, .null, .long 0, .null, .null, .int 0, .long 0, .int 0]) (ty0 := tyX12) G0 hin hw tyX12_ok nmX12 in_X12_init_X12 rfl h_368 (by decide) (by decide +kernel) rfl rfl rfl rfl rfl (Nat.le_of_ble_eq_true rfl) rfl dX12_init_199 (fun f_383 H_384 locs h_385 x_386 hw => ?_)
  have hZ := hZ.unt uh x_386
  have hT := hT.ext x_386
  refine lv_aload_n G0.1 G0.2.1 dX12_init_202 rfl (lv_at hl 0 rfl) ?_
  refine lv_sipush (v := 600) G0.1 G0.2.1 dX12_init_203 (by decide) ?_
  refine py_newI (N := 600) G0 hw (by decide +kernel) (by decide) (by decide) (Nat.le_of_ble_eq_true rfl) (Nat.le_of_ble_eq_true rfl) (Nat.le_of_ble_eq_true rfl) dX12_init_206 (fun q_387 L_388 f_389 H_390 hq_391 h_392 x_393 hw => ?_)
  have u_394 := hZ.un hq_391
  have nq_395 := hT.ne hq_391
  have ne_396 : h ≠ q_387 := py_ne_new h_385 hq_391
  have h_385 := h_385.all x_393
  have hZ := hZ.all x_393
  have hT := hT.all x_393
  obtain ⟨G_399, gx_397, hZ, ty_398, ee_399⟩ := hZ.arr (c := 62) (n := 600) (lo := (-2147483648)) (hi := 2147483647) u_394 (by decide) (by decide) h_392 (fun _ _ => rfl) (fun _ => rfl) (by decide) (by decide)
  have ty_12 := gx_397.ty ty_12 (by decide)
  have ty_29 := gx_397.ty ty_29 (by decide)
  have ty_46 := gx_397.ty ty_46 (by decide)
  have ty_63 := gx_397.ty ty_63 (by decide)
  have ty_80 := gx_397.ty ty_80 (by decide)
  have ty_97 := gx_397.ty ty_97 (by decide)
  have ty_114 := gx_397.ty ty_114 (by decide)
  have ty_131 := gx_397.ty ty_131 (by decide)
  have ty_148 := gx_397.ty ty_148 (by decide)
  have ty_165 := gx_397.ty ty_165 (by decide)
  have ty_182 := gx_397.ty ty_182 (by decide)
  have ty_199 := gx_397.ty ty_199 (by decide)
  have ty_216 := gx_397.ty ty_216 (by decide)
  have ty_233 := gx_397.ty ty_233 (by decide)
  have ty_250 := gx_397.ty ty_250 (by decide)
  have ty_267 := gx_397.ty ty_267 (by decide)
  have ty_284 := gx_397.ty ty_284 (by decide)
  have ty_301 := gx_397.ty ty_301 (by decide)
  have ty_330 := gx_397.ty ty_330 (by decide)
  have ty_347 := gx_397.ty ty_347 (by decide)
  have ty_364 := gx_397.ty ty_364 (by decide)
  have ty_381 := gx_397.ty ty_381 (by decide)
  have hX := hX.trans gx_397
  have uh := (ee_399 h ne_396).trans uh
  have hT := hT.ty ee_399 nq_395
  refine py_putF (C := RX12) (T := TX12) (N := 54) (k := 39) (v := .ref q_387) (fs' := [.int 0, .ref q_1, .int 0, .int 0, .int 0, .int 0, .ref q_18, .ref q_35, .ref q_52, .ref q_69, .ref q_86, .ref q_103, .ref q_120, .int 0, .int 0, .ref q_137, .ref q_154, .ref q_171, .ref q_188, .int 0, .int 0, .ref q_205, .ref q_222, .ref q_239, .int 0, .int 0, .ref q_256, .ref q_273, .ref q_290, .int 0, .long 0, .int (-1), .int 50, .int 0, .int 10, .ref q_319, .ref q_336, .ref q_353, .ref q_370, .ref q_387, .null, .null, .null, .int 0, .null, .null, .null, .null, .long 0, .null, .null, .int 0, .long 0, .int 0]) (ty0 := tyX12) G0 hin hw tyX12_ok nmX12 in_X12_init_X12 rfl h_385 (by decide) (by decide +kernel) rfl rfl rfl rfl rfl (Nat.le_of_ble_eq_true rfl) rfl dX12_init_208 (fun f_400 H_401 locs h_402 x_403 hw => ?_)
  have hZ := hZ.unt uh x_403
  have hT := hT.ext x_403
  refine lv_aload_n G0.1 G0.2.1 dX12_init_211 rfl (lv_at hl 0 rfl) ?_
  refine lv_bipush (v := 40) G0.1 G0.2.1 dX12_init_212 (by decide) ?_
  refine py_newI (N := 40) G0 hw (by decide +kernel) (by decide) (by decide) (Nat.le_of_ble_eq_true rfl) (Nat.le_of_ble_eq_true rfl) (Nat.le_of_ble_eq_true rfl) dX12_init_214 (fun q_404 L_405 f_406 H_407 hq_408 h_409 x_410 hw => ?_)
  have u_411 := hZ.un hq_408
  have nq_412 := hT.ne hq_408
  have ne_413 : h ≠ q_404 := py_ne_new h_402 hq_408
  have h_402 := h_402.all x_410
  have hZ := hZ.all x_410
  have hT := hT.all x_410
  obtain ⟨G_416, gx_414, hZ, ty_415, ee_416⟩ := hZ.arr (c := 63) (n := 40) (lo := 0) (hi := 9) u_411 (by decide) (by decide) h_409 (fun _ _ => rfl) (fun _ => rfl) (by decide) (by decide)
  have ty_12 := gx_414.ty ty_12 (by decide)
  have ty_29 := gx_414.ty ty_29 (by decide)
  have ty_46 := gx_414.ty ty_46 (by decide)
  have ty_63 := gx_414.ty ty_63 (by decide)
  have ty_80 := gx_414.ty ty_80 (by decide)
  have ty_97 := gx_414.ty ty_97 (by decide)
  have ty_114 := gx_414.ty ty_114 (by decide)
  have ty_131 := gx_414.ty ty_131 (by decide)
  have ty_148 := gx_414.ty ty_148 (by decide)
  have ty_165 := gx_414.ty ty_165 (by decide)
  have ty_182 := gx_414.ty ty_182 (by decide)
  have ty_199 := gx_414.ty ty_199 (by decide)
  have ty_216 := gx_414.ty ty_216 (by decide)
  have ty_233 := gx_414.ty ty_233 (by decide)
  have ty_250 := gx_414.ty ty_250 (by decide)
  have ty_267 := gx_414.ty ty_267 (by decide)
  have ty_284 := gx_414.ty ty_284 (by decide)
  have ty_301 := gx_414.ty ty_301 (by decide)
  have ty_330 := gx_414.ty ty_330 (by decide)
  have ty_347 := gx_414.ty ty_347 (by decide)
  have ty_364 := gx_414.ty ty_364 (by decide)
  have ty_381 := gx_414.ty ty_381 (by decide)
  have ty_398 := gx_414.ty ty_398 (by decide)
  have hX := hX.trans gx_414
  have uh := (ee_416 h ne_413).trans uh
  have hT := hT.ty ee_416 nq_412
  refine py_putF (C := RX12) (T := TX12) (N := 54) (k := 40) (v := .ref q_404) (fs' := [.int 0, .ref q_1, .int 0, .int 0, .int 0, .int 0, .ref q_18, .ref q_35, .ref q_52, .ref q_69, .ref q_86, .ref q_103, .ref q_120, .int 0, .int 0, .ref q_137, .ref q_154, .ref q_171, .ref q_188, .int 0, .int 0, .ref q_205, .ref q_222, .ref q_239, .int 0, .int 0, .ref q_256, .ref q_273, .ref q_290, .int 0, .long 0, .int (-1), .int 50, .int 0, .int 10, .ref q_319, .ref q_336, .ref q_353, .ref q_370, .ref q_387, .ref q_404, .null, .null, .int 0, .null, .null, .null, .null, .long 0, .null, .null, .int 0, .long 0, .int 0]) (ty0 := tyX12) G0 hin hw tyX12_ok nmX12 in_X12_init_X12 rfl h_402 (by decide) (by decide +kernel) rfl rfl rfl rfl rfl (Nat.le_of_ble_eq_true rfl) rfl dX12_init_216 (fun f_417 H_418 locs h_419 x_420 hw => ?_)
  have hZ := hZ.unt uh x_420
  have hT := hT.ext x_420
  refine lv_aload_n G0.1 G0.2.1 dX12_init_219 rfl (lv_at hl 0 rfl) ?_
  refine lv_bipush (v := 40) G0.1 G0.2.1 dX12_init_220 (by decide) ?_
  refine py_newI (N := 40) G0 hw (by decide +kernel) (by decide) (by decide) (Nat.le_of_ble_eq_true rfl) (Nat.le_of_ble_eq_true rfl) (Nat.le_of_ble_eq_true rfl) dX12_init_222 (fun q_421 L_422 f_423 H_424 hq_425 h_426 x_427 hw => ?_)
  have u_428 := hZ.un hq_425
  have nq_429 := hT.ne hq_425
  have ne_430 : h ≠ q_421 := py_ne_new h_419 hq_425
  have h_419 := h_419.all x_427
  have hZ := hZ.all x_427
  have hT := hT.all x_427
  obtain ⟨G_433, gx_431, hZ, ty_432, ee_433⟩ := hZ.arr (c := 64) (n := 40) (lo := (-2147483648)) (hi := 2147483647) u_428 (by decide) (by decide) h_426 (fun _ _ => rfl) (fun _ => rfl) (by decide) (by decide)
  have ty_12 := gx_431.ty ty_12 (by decide)
  have ty_29 := gx_431.ty ty_29 (by decide)
  have ty_46 := gx_431.ty ty_46 (by decide)
  have ty_63 := gx_431.ty ty_63 (by decide)
  have ty_80 := gx_431.ty ty_80 (by decide)
  have ty_97 := gx_431.ty ty_97 (by decide)
  have ty_114 := gx_431.ty ty_114 (by decide)
  have ty_131 := gx_431.ty ty_131 (by decide)
  have ty_148 := gx_431.ty ty_148 (by decide)
  have ty_165 := gx_431.ty ty_165 (by decide)
  have ty_182 := gx_431.ty ty_182 (by decide)
  have ty_199 := gx_431.ty ty_199 (by decide)
  have ty_216 := gx_431.ty ty_216 (by decide)
  have ty_233 := gx_431.ty ty_233 (by decide)
  have ty_250 := gx_431.ty ty_250 (by decide)
  have ty_267 := gx_431.ty ty_267 (by decide)
  have ty_284 := gx_431.ty ty_284 (by decide)
  have ty_301 := gx_431.ty ty_301 (by decide)
  have ty_330 := gx_431.ty ty_330 (by decide)
  have ty_347 := gx_431.ty ty_347 (by decide)
  have ty_364 := gx_431.ty ty_364 (by decide)
  have ty_381 := gx_431.ty ty_381 (by decide)
  have ty_398 := gx_431.ty ty_398 (by decide)
  have ty_415 := gx_431.ty ty_415 (by decide)
  have hX := hX.trans gx_431
  have uh := (ee_433 h ne_430).trans uh
  have hT := hT.ty ee_433 nq_429
  refine py_putF (C := RX12) (T := TX12) (N := 54) (k := 41) (v := .ref q_421) (fs' := [.int 0, .ref q_1, .int 0, .int 0, .int 0, .int 0, .ref q_18, .ref q_35, .ref q_52, .ref q_69, .ref q_86, .ref q_103, .ref q_120, .int 0, .int 0, .ref q_137, .ref q_154, .ref q_171, .ref q_188, .int 0, .int 0, .ref q_205, .ref q_222, .ref q_239, .int 0, .int 0, .ref q_256, .ref q_273, .ref q_290, .int 0, .long 0, .int (-1), .int 50, .int 0, .int 10, .ref q_319, .ref q_336, .ref q_353, .ref q_370, .ref q_387, .ref q_404, .ref q_421, .null, .int 0, .null, .null, .null, .null, .long 0, .null, .null, .int 0, .long 0, .int 0]) (ty0 := tyX12) G0 hin hw tyX12_ok nmX12 in_X12_init_X12 rfl h_419 (by decide) (by decide +kernel) rfl rfl rfl rfl rfl (Nat.le_of_ble_eq_true rfl) rfl dX12_init_224 (fun f_434 H_435 locs h_436 x_437 hw => ?_)
  have hZ := hZ.unt uh x_437
  have hT := hT.ext x_437
  refine lv_aload_n G0.1 G0.2.1 dX12_init_227 rfl (lv_at hl 0 rfl) ?_
  refine lv_bipush (v := 40) G0.1 G0.2.1 dX12_init_228 (by decide) ?_
  refine py_newI (N := 40) G0 hw (by decide +kernel) (by decide) (by decide) (Nat.le_of_ble_eq_true rfl) (Nat.le_of_ble_eq_true rfl) (Nat.le_of_ble_eq_true rfl) dX12_init_230 (fun q_438 L_439 f_440 H_441 hq_442 h_443 x_444 hw => ?_)
  have u_445 := hZ.un hq_442
  have nq_446 := hT.ne hq_442
  have ne_447 : h ≠ q_438 := py_ne_new h_436 hq_442
  have h_436 := h_436.all x_444
  have hZ := hZ.all x_444
  have hT := hT.all x_444
  obtain ⟨G_450, gx_448, hZ, ty_449, ee_450⟩ := hZ.arr (c := 65) (n := 40) (lo := (-2147483648)) (hi := 2147483647) u_445 (by decide) (by decide) h_443 (fun _ _ => rfl) (fun _ => rfl) (by decide) (by decide)
  have ty_12 := gx_448.ty ty_12 (by decide)
  have ty_29 := gx_448.ty ty_29 (by decide)
  have ty_46 := gx_448.ty ty_46 (by decide)
  have ty_63 := gx_448.ty ty_63 (by decide)
  have ty_80 := gx_448.ty ty_80 (by decide)
  have ty_97 := gx_448.ty ty_97 (by decide)
  have ty_114 := gx_448.ty ty_114 (by decide)
  have ty_131 := gx_448.ty ty_131 (by decide)
  have ty_148 := gx_448.ty ty_148 (by decide)
  have ty_165 := gx_448.ty ty_165 (by decide)
  have ty_182 := gx_448.ty ty_182 (by decide)
  have ty_199 := gx_448.ty ty_199 (by decide)
  have ty_216 := gx_448.ty ty_216 (by decide)
  have ty_233 := gx_448.ty ty_233 (by decide)
  have ty_250 := gx_448.ty ty_250 (by decide)
  have ty_267 := gx_448.ty ty_267 (by decide)
  have ty_284 := gx_448.ty ty_284 (by decide)
  have ty_301 := gx_448.ty ty_301 (by decide)
  have ty_330 := gx_448.ty ty_330 (by decide)
  have ty_347 := gx_448.ty ty_347 (by decide)
  have ty_364 := gx_448.ty ty_364 (by decide)
  have ty_381 := gx_448.ty ty_381 (by decide)
  have ty_398 := gx_448.ty ty_398 (by decide)
  have ty_415 := gx_448.ty ty_415 (by decide)
  have ty_432 := gx_448.ty ty_432 (by decide)
  have hX := hX.trans gx_448
  have uh := (ee_450 h ne_447).trans uh
  have hT := hT.ty ee_450 nq_446
  refine py_putF (C := RX12) (T := TX12) (N := 54) (k := 42) (v := .ref q_438) (fs' := [.int 0, .ref q_1, .int 0, .int 0, .int 0, .int 0, .ref q_18, .ref q_35, .ref q_52, .ref q_69, .ref q_86, .ref q_103, .ref q_120, .int 0, .int 0, .ref q_137, .ref q_154, .ref q_171, .ref q_188, .int 0, .int 0, .ref q_205, .ref q_222, .ref q_239, .int 0, .int 0, .ref q_256, .ref q_273, .ref q_290, .int 0, .long 0, .int (-1), .int 50, .int 0, .int 10, .ref q_319, .ref q_336, .ref q_353, .ref q_370, .ref q_387, .ref q_404, .ref q_421, .ref q_438, .int 0, .null, .null, .null, .null, .long 0, .null, .null, .int 0, .long 0, .int 0]) (ty0 := tyX12) G0 hin hw tyX12_ok nmX12 in_X12_init_X12 rfl h_436 (by decide) (by decide +kernel) rfl rfl rfl rfl rfl (Nat.le_of_ble_eq_true rfl) rfl dX12_init_232 (fun f_451 H_452 locs h_453 x_454 hw => ?_)
  have hZ := hZ.unt uh x_454
  have hT := hT.ext x_454
  refine lv_aload_n G0.1 G0.2.1 dX12_init_235 rfl (lv_at hl 0 rfl) ?_
  refine lv_bipush (v := 8) G0.1 G0.2.1 dX12_init_236 (by decide) ?_
  refine py_newI (N := 8) G0 hw (by decide +kernel) (by decide) (by decide) (Nat.le_of_ble_eq_true rfl) (Nat.le_of_ble_eq_true rfl) (Nat.le_of_ble_eq_true rfl) dX12_init_238 (fun q_455 L_456 f_457 H_458 hq_459 h_460 x_461 hw => ?_)
  have u_462 := hZ.un hq_459
  have nq_463 := hT.ne hq_459
  have ne_464 : h ≠ q_455 := py_ne_new h_453 hq_459
  have h_453 := h_453.all x_461
  have hZ := hZ.all x_461
  have hT := hT.all x_461
  obtain ⟨G_467, gx_465, hZ, ty_466, ee_467⟩ := hZ.arr (c := 66) (n := 8) (lo := (-2147483648)) (hi := 2147483647) u_462 (by decide) (by decide) h_460 (fun _ _ => rfl) (fun _ => rfl) (by decide) (by decide)
  have ty_12 := gx_465.ty ty_12 (by decide)
  have ty_29 := gx_465.ty ty_29 (by decide)
  have ty_46 := gx_465.ty ty_46 (by decide)
  have ty_63 := gx_465.ty ty_63 (by decide)
  have ty_80 := gx_465.ty ty_80 (by decide)
  have ty_97 := gx_465.ty ty_97 (by decide)
  have ty_114 := gx_465.ty ty_114 (by decide)
  have ty_131 := gx_465.ty ty_131 (by decide)
  have ty_148 := gx_465.ty ty_148 (by decide)
  have ty_165 := gx_465.ty ty_165 (by decide)
  have ty_182 := gx_465.ty ty_182 (by decide)
  have ty_199 := gx_465.ty ty_199 (by decide)
  have ty_216 := gx_465.ty ty_216 (by decide)
  have ty_233 := gx_465.ty ty_233 (by decide)
  have ty_250 := gx_465.ty ty_250 (by decide)
  have ty_267 := gx_465.ty ty_267 (by decide)
  have ty_284 := gx_465.ty ty_284 (by decide)
  have ty_301 := gx_465.ty ty_301 (by decide)
  have ty_330 := gx_465.ty ty_330 (by decide)
  have ty_347 := gx_465.ty ty_347 (by decide)
  have ty_364 := gx_465.ty ty_364 (by decide)
  have ty_381 := gx_465.ty ty_381 (by decide)
  have ty_398 := gx_465.ty ty_398 (by decide)
  have ty_415 := gx_465.ty ty_415 (by decide)
  have ty_432 := gx_465.ty ty_432 (by decide)
  have ty_449 := gx_465.ty ty_449 (by decide)
  have hX := hX.trans gx_465
  have uh := (ee_467 h ne_464).trans uh
  have hT := hT.ty ee_467 nq_463
  refine py_putF (C := RX12) (T := TX12) (N := 54) (k := 44) (v := .ref q_455) (fs' := [.int 0, .ref q_1, .int 0, .int 0, .int 0, .int 0, .ref q_18, .ref q_35, .ref q_52, .ref q_69, .ref q_86, .ref q_103, .ref q_120, .int 0, .int 0, .ref q_137, .ref q_154, .ref q_171, .ref q_188, .int 0, .int 0, .ref q_205, .ref q_222, .ref q_239, .int 0, .int 0, .ref q_256, .ref q_273, .ref q_290, .int 0, .long 0, .int (-1), .int 50, .int 0, .int 10, .ref q_319, .ref q_336, .ref q_353, .ref q_370, .ref q_387, .ref q_404, .ref q_421, .ref q_438, .int 0, .ref q_455, .null, .null, .null, .long 0, .null, .null, .int 0, .long 0, .int 0]) (ty0 := tyX12) G0 hin hw tyX12_ok nmX12 in_X12_init_X12 rfl h_453 (by decide) (by decide +kernel) rfl rfl rfl rfl rfl (Nat.le_of_ble_eq_true rfl) rfl dX12_init_240 (fun f_468 H_469 locs h_470 x_471 hw => ?_)
  have hZ := hZ.unt uh x_471
  have hT := hT.ext x_471
  refine lv_aload_n G0.1 G0.2.1 dX12_init_243 rfl (lv_at hl 0 rfl) ?_
  refine lv_sipush (v := 168) G0.1 G0.2.1 dX12_init_244 (by decide) ?_
  refine py_newJ (N := 168) G0 hw (by decide +kernel) (by decide) (by decide) (Nat.le_of_ble_eq_true rfl) (Nat.le_of_ble_eq_true rfl) (Nat.le_of_ble_eq_true rfl) dX12_init_247 (fun q_472 L_473 f_474 H_475 hq_476 h_477 x_478 hw => ?_)
  have u_479 := hZ.un hq_476
  have nq_480 := hT.ne hq_476
  have ne_481 : h ≠ q_472 := py_ne_new h_470 hq_476
  have h_470 := h_470.all x_478
  have hZ := hZ.all x_478
  have hT := hT.all x_478
  obtain ⟨G_484, gx_482, hZ, ty_483, ee_484⟩ := hZ.arrK (c := 67) u_479 (by decide) (by decide) h_477 (fun _ => ⟨_, rfl⟩) (fun _ => rfl)
  have ty_12 := gx_482.ty ty_12 (by decide)
  have ty_29 := gx_482.ty ty_29 (by decide)
  have ty_46 := gx_482.ty ty_46 (by decide)
  have ty_63 := gx_482.ty ty_63 (by decide)
  have ty_80 := gx_482.ty ty_80 (by decide)
  have ty_97 := gx_482.ty ty_97 (by decide)
  have ty_114 := gx_482.ty ty_114 (by decide)
  have ty_131 := gx_482.ty ty_131 (by decide)
  have ty_148 := gx_482.ty ty_148 (by decide)
  have ty_165 := gx_482.ty ty_165 (by decide)
  have ty_182 := gx_482.ty ty_182 (by decide)
  have ty_199 := gx_482.ty ty_199 (by decide)
  have ty_216 := gx_482.ty ty_216 (by decide)
  have ty_233 := gx_482.ty ty_233 (by decide)
  have ty_250 := gx_482.ty ty_250 (by decide)
  have ty_267 := gx_482.ty ty_267 (by decide)
  have ty_284 := gx_482.ty ty_284 (by decide)
  have ty_301 := gx_482.ty ty_301 (by decide)
  have ty_330 := gx_482.ty ty_330 (by decide)
  have ty_347 := gx_482.ty ty_347 (by decide)
  have ty_364 := gx_482.ty ty_364 (by decide)
  have ty_381 := gx_482.ty ty_381 (by decide)
  have ty_398 := gx_482.ty ty_398 (by decide)
  have ty_415 := gx_482.ty ty_415 (by decide)
  have ty_432 := gx_482.ty ty_432 (by decide)
  have ty_449 := gx_482.ty ty_449 (by decide)
  have ty_466 := gx_482.ty ty_466 (by decide)
  have hX := hX.trans gx_482
  have uh := (ee_484 h ne_481).trans uh
  have hT := hT.ty ee_484 nq_480
  refine py_putF (C := RX12) (T := TX12) (N := 54) (k := 45) (v := .ref q_472) (fs' := [.int 0, .ref q_1, .int 0, .int 0, .int 0, .int 0, .ref q_18, .ref q_35, .ref q_52, .ref q_69, .ref q_86, .ref q_103, .ref q_120, .int 0, .int 0, .ref q_137, .ref q_154, .ref q_171, .ref q_188, .int 0, .int 0, .ref q_205, .ref q_222, .ref q_239, .int 0, .int 0, .ref q_256, .ref q_273, .ref q_290, .int 0, .long 0, .int (-1), .int 50, .int 0, .int 10, .ref q_319, .ref q_336, .ref q_353, .ref q_370, .ref q_387, .ref q_404, .ref q_421, .ref q_438, .int 0, .ref q_455, .ref q_472, .null, .null, .long 0, .null, .null, .int 0, .long 0, .int 0]) (ty0 := tyX12) G0 hin hw tyX12_ok nmX12 in_X12_init_X12 rfl h_470 (by decide) (by decide +kernel) rfl rfl rfl rfl rfl (Nat.le_of_ble_eq_true rfl) rfl dX12_init_249 (fun f_485 H_486 locs h_487 x_488 hw => ?_)
  have hZ := hZ.unt uh x_488
  have hT := hT.ext x_488
  refine lv_aload_n G0.1 G0.2.1 dX12_init_252 rfl (lv_at hl 0 rfl) ?_
  refine lv_sipush (v := 168) G0.1 G0.2.1 dX12_init_253 (by decide) ?_
  refine py_newJ (N := 168) G0 hw (by decide +kernel) (by decide) (by decide) (Nat.le_of_ble_eq_true rfl) (Nat.le_of_ble_eq_true rfl) (Nat.le_of_ble_eq_true rfl) dX12_init_256 (fun q_489 L_490 f_491 H_492 hq_493 h_494 x_495 hw => ?_)
  have u_496 := hZ.un hq_493
  have nq_497 := hT.ne hq_493
  have ne_498 : h ≠ q_489 := py_ne_new h_487 hq_493
  have h_487 := h_487.all x_495
  have hZ := hZ.all x_495
  have hT := hT.all x_495
  obtain ⟨G_501, gx_499, hZ, ty_500, ee_501⟩ := hZ.arrK (c := 68) u_496 (by decide) (by decide) h_494 (fun _ => ⟨_, rfl⟩) (fun _ => rfl)
  have ty_12 := gx_499.ty ty_12 (by decide)
  have ty_29 := gx_499.ty ty_29 (by decide)
  have ty_46 := gx_499.ty ty_46 (by decide)
  have ty_63 := gx_499.ty ty_63 (by decide)
  have ty_80 := gx_499.ty ty_80 (by decide)
  have ty_97 := gx_499.ty ty_97 (by decide)
  have ty_114 := gx_499.ty ty_114 (by decide)
  have ty_131 := gx_499.ty ty_131 (by decide)
  have ty_148 := gx_499.ty ty_148 (by decide)
  have ty_165 := gx_499.ty ty_165 (by decide)
  have ty_182 := gx_499.ty ty_182 (by decide)
  have ty_199 := gx_499.ty ty_199 (by decide)
  have ty_216 := gx_499.ty ty_216 (by decide)
  have ty_233 := gx_499.ty ty_233 (by decide)
  have ty_250 := gx_499.ty ty_250 (by decide)
  have ty_267 := gx_499.ty ty_267 (by decide)
  have ty_284 := gx_499.ty ty_284 (by decide)
  have ty_301 := gx_499.ty ty_301 (by decide)
  have ty_330 := gx_499.ty ty_330 (by decide)
  have ty_347 := gx_499.ty ty_347 (by decide)
  have ty_364 := gx_499.ty ty_364 (by decide)
  have ty_381 := gx_499.ty ty_381 (by decide)
  have ty_398 := gx_499.ty ty_398 (by decide)
  have ty_415 := gx_499.ty ty_415 (by decide)
  have ty_432 := gx_499.ty ty_432 (by decide)
  have ty_449 := gx_499.ty ty_449 (by decide)
  have ty_466 := gx_499.ty ty_466 (by decide)
  have ty_483 := gx_499.ty ty_483 (by decide)
  have hX := hX.trans gx_499
  have uh := (ee_501 h ne_498).trans uh
  have hT := hT.ty ee_501 nq_497
  refine py_putF (C := RX12) (T := TX12) (N := 54) (k := 46) (v := .ref q_489) (fs' := [.int 0, .ref q_1, .int 0, .int 0, .int 0, .int 0, .ref q_18, .ref q_35, .ref q_52, .ref q_69, .ref q_86, .ref q_103, .ref q_120, .int 0, .int 0, .ref q_137, .ref q_154, .ref q_171, .ref q_188, .int 0, .int 0, .ref q_205, .ref q_222, .ref q_239, .int 0, .int 0, .ref q_256, .ref q_273, .ref q_290, .int 0, .long 0, .int (-1), .int 50, .int 0, .int 10, .ref q_319, .ref q_336, .ref q_353, .ref q_370, .ref q_387, .ref q_404, .ref q_421, .ref q_438, .int 0, .ref q_455, .ref q_472, .ref q_489, .null, .long 0, .null, .null, .int 0, .long 0, .int 0]) (ty0 := tyX12) G0 hin hw tyX12_ok nmX12 in_X12_init_X12 rfl h_487 (by decide) (by decide +kernel) rfl rfl rfl rfl rfl (Nat.le_of_ble_eq_true rfl) rfl dX12_init_258 (fun f_502 H_503 locs h_504 x_505 hw => ?_)
  have hZ := hZ.unt uh x_505
  have hT := hT.ext x_505
  refine lv_aload_n G0.1 G0.2.1 dX12_init_261 rfl (lv_at hl 0 rfl) ?_
  refine lv_bipush (v := 22) G0.1 G0.2.1 dX12_init_262 (by decide) ?_
  refine py_newJ (N := 22) G0 hw (by decide +kernel) (by decide) (by decide) (Nat.le_of_ble_eq_true rfl) (Nat.le_of_ble_eq_true rfl) (Nat.le_of_ble_eq_true rfl) dX12_init_264 (fun q_506 L_507 f_508 H_509 hq_510 h_511 x_512 hw => ?_)
  have u_513 := hZ.un hq_510
  have nq_514 := hT.ne hq_510
  have ne_515 : h ≠ q_506 := py_ne_new h_504 hq_510
  have h_504 := h_504.all x_512
  have hZ := hZ.all x_512
  have hT := hT.all x_512
  obtain ⟨G_518, gx_516, hZ, ty_517, ee_518⟩ := hZ.arrK (c := 69) u_513 (by decide) (by decide) h_511 (fun _ => ⟨_, rfl⟩) (fun _ => rfl)
  have ty_12 := gx_516.ty ty_12 (by decide)
  have ty_29 := gx_516.ty ty_29 (by decide)
  have ty_46 := gx_516.ty ty_46 (by decide)
  have ty_63 := gx_516.ty ty_63 (by decide)
  have ty_80 := gx_516.ty ty_80 (by decide)
  have ty_97 := gx_516.ty ty_97 (by decide)
  have ty_114 := gx_516.ty ty_114 (by decide)
  have ty_131 := gx_516.ty ty_131 (by decide)
  have ty_148 := gx_516.ty ty_148 (by decide)
  have ty_165 := gx_516.ty ty_165 (by decide)
  have ty_182 := gx_516.ty ty_182 (by decide)
  have ty_199 := gx_516.ty ty_199 (by decide)
  have ty_216 := gx_516.ty ty_216 (by decide)
  have ty_233 := gx_516.ty ty_233 (by decide)
  have ty_250 := gx_516.ty ty_250 (by decide)
  have ty_267 := gx_516.ty ty_267 (by decide)
  have ty_284 := gx_516.ty ty_284 (by decide)
  have ty_301 := gx_516.ty ty_301 (by decide)
  have ty_330 := gx_516.ty ty_330 (by decide)
  have ty_347 := gx_516.ty ty_347 (by decide)
  have ty_364 := gx_516.ty ty_364 (by decide)
  have ty_381 := gx_516.ty ty_381 (by decide)
  have ty_398 := gx_516.ty ty_398 (by decide)
  have ty_415 := gx_516.ty ty_415 (by decide)
  have ty_432 := gx_516.ty ty_432 (by decide)
  have ty_449 := gx_516.ty ty_449 (by decide)
  have ty_466 := gx_516.ty ty_466 (by decide)
  have ty_483 := gx_516.ty ty_483 (by decide)
  have ty_500 := gx_516.ty ty_500 (by decide)
  have hX := hX.trans gx_516
  have uh := (ee_518 h ne_515).trans uh
  have hT := hT.ty ee_518 nq_514
  refine py_putF (C := RX12) (T := TX12) (N := 54) (k := 47) (v := .ref q_506) (fs' := [.int 0, .ref q_1, .int 0, .int 0, .int 0, .int 0, .ref q_18, .ref q_35, .ref q_52, .ref q_69, .ref q_86, .ref q_103, .ref q_120, .int 0, .int 0, .ref q_137, .ref q_154, .ref q_171, .ref q_188, .int 0, .int 0, .ref q_205, .ref q_222, .ref q_239, .int 0, .int 0, .ref q_256, .ref q_273, .ref q_290, .int 0, .long 0, .int (-1), .int 50, .int 0, .int 10, .ref q_319, .ref q_336, .ref q_353, .ref q_370, .ref q_387, .ref q_404, .ref q_421, .ref q_438, .int 0, .ref q_455, .ref q_472, .ref q_489, .ref q_506, .long 0, .null, .null, .int 0, .long 0, .int 0]) (ty0 := tyX12) G0 hin hw tyX12_ok nmX12 in_X12_init_X12 rfl h_504 (by decide) (by decide +kernel) rfl rfl rfl rfl rfl (Nat.le_of_ble_eq_true rfl) rfl dX12_init_266 (fun f_519 H_520 locs h_521 x_522 hw => ?_)
  have hZ := hZ.unt uh x_522
  have hT := hT.ext x_522
  refine lv_aload_n G0.1 G0.2.1 dX12_init_269 rfl (lv_at hl 0 rfl) ?_
  refine lv_sipush (v := 600) G0.1 G0.2.1 dX12_init_270 (by decide) ?_
  refine py_newI (N := 600) G0 hw (by decide +kernel) (by decide) (by decide) (Nat.le_of_ble_eq_true rfl) (Nat.le_of_ble_eq_true rfl) (Nat.le_of_ble_eq_true rfl) dX12_init_273 (fun q_523 L_524 f_525 H_526 hq_527 h_528 x_529 hw => ?_)
  have u_530 := hZ.un hq_527
  have nq_531 := hT.ne hq_527
  have ne_532 : h ≠ q_523 := py_ne_new h_521 hq_527
  have h_521 := h_521.all x_529
  have hZ := hZ.all x_529
  have hT := hT.all x_529
  obtain ⟨G_535, gx_533, hZ, ty_534, ee_535⟩ := hZ.arr (c := 70) (n := 600) (lo := (-2147483648)) (hi := 2147483647) u_530 (by decide) (by decide) h_528 (fun _ _ => rfl) (fun _ => rfl) (by decide) (by decide)
  have ty_12 := gx_533.ty ty_12 (by decide)
  have ty_29 := gx_533.ty ty_29 (by decide)
  have ty_46 := gx_533.ty ty_46 (by decide)
  have ty_63 := gx_533.ty ty_63 (by decide)
  have ty_80 := gx_533.ty ty_80 (by decide)
  have ty_97 := gx_533.ty ty_97 (by decide)
  have ty_114 := gx_533.ty ty_114 (by decide)
  have ty_131 := gx_533.ty ty_131 (by decide)
  have ty_148 := gx_533.ty ty_148 (by decide)
  have ty_165 := gx_533.ty ty_165 (by decide)
  have ty_182 := gx_533.ty ty_182 (by decide)
  have ty_199 := gx_533.ty ty_199 (by decide)
  have ty_216 := gx_533.ty ty_216 (by decide)
  have ty_233 := gx_533.ty ty_233 (by decide)
  have ty_250 := gx_533.ty ty_250 (by decide)
  have ty_267 := gx_533.ty ty_267 (by decide)
  have ty_284 := gx_533.ty ty_284 (by decide)
  have ty_301 := gx_533.ty ty_301 (by decide)
  have ty_330 := gx_533.ty ty_330 (by decide)
  have ty_347 := gx_533.ty ty_347 (by decide)
  have ty_364 := gx_533.ty ty_364 (by decide)
  have ty_381 := gx_533.ty ty_381 (by decide)
  have ty_398 := gx_533.ty ty_398 (by decide)
  have ty_415 := gx_533.ty ty_415 (by decide)
  have ty_432 := gx_533.ty ty_432 (by decide)
  have ty_449 := gx_533.ty ty_449 (by decide)
  have ty_466 := gx_533.ty ty_466 (by decide)
  have ty_483 := gx_533.ty ty_483 (by decide)
  have ty_500 := gx_533.ty ty_500 (by decide)
  have ty_517 := gx_533.ty ty_517 (by decide)
  have hX := hX.trans gx_533
  have uh := (ee_535 h ne_532).trans uh
  have hT := hT.ty ee_535 nq_531
  refine py_putF (C := RX12) (T := TX12) (N := 54) (k := 49) (v := .ref q_523) (fs' := [.int 0, .ref q_1, .int 0, .int 0, .int 0, .int 0, .ref q_18, .ref q_35, .ref q_52, .ref q_69, .ref q_86, .ref q_103, .ref q_120, .int 0, .int 0, .ref q_137, .ref q_154, .ref q_171, .ref q_188, .int 0, .int 0, .ref q_205, .ref q_222, .ref q_239, .int 0, .int 0, .ref q_256, .ref q_273, .ref q_290, .int 0, .long 0, .int (-1), .int 50, .int 0, .int 10, .ref q_319, .ref q_336, .ref q_353, .ref q_370, .ref q_387, .ref q_404, .ref q_421, .ref q_438, .int 0, .ref q_455, .ref q_472, .ref q_489, .ref q_506, .long 0, .ref q_523, .null, .int 0, .long 0, .int 0]) (ty0 := tyX12) G0 hin hw tyX12_ok nmX12 in_X12_init_X12 rfl h_521 (by decide) (by decide +kernel) rfl rfl rfl rfl rfl (Nat.le_of_ble_eq_true rfl) rfl dX12_init_275 (fun f_536 H_537 locs h_538 x_539 hw => ?_)
  have hZ := hZ.unt uh x_539
  have hT := hT.ext x_539
  refine lv_aload_n G0.1 G0.2.1 dX12_init_278 rfl (lv_at hl 0 rfl) ?_
  refine lv_sipush (v := 600) G0.1 G0.2.1 dX12_init_279 (by decide) ?_
  refine py_newI (N := 600) G0 hw (by decide +kernel) (by decide) (by decide) (Nat.le_of_ble_eq_true rfl) (Nat.le_of_ble_eq_true rfl) (Nat.le_of_ble_eq_true rfl) dX12_init_282 (fun q_540 L_541 f_542 H_543 hq_544 h_545 x_546 hw => ?_)
  have u_547 := hZ.un hq_544
  have nq_548 := hT.ne hq_544
  have ne_549 : h ≠ q_540 := py_ne_new h_538 hq_544
  have h_538 := h_538.all x_546
  have hZ := hZ.all x_546
  have hT := hT.all x_546
  obtain ⟨G_552, gx_550, hZ, ty_551, ee_552⟩ := hZ.arr (c := 71) (n := 600) (lo := (-2147483648)) (hi := 2147483647) u_547 (by decide) (by decide) h_545 (fun _ _ => rfl) (fun _ => rfl) (by decide) (by decide)
  have ty_12 := gx_550.ty ty_12 (by decide)
  have ty_29 := gx_550.ty ty_29 (by decide)
  have ty_46 := gx_550.ty ty_46 (by decide)
  have ty_63 := gx_550.ty ty_63 (by decide)
  have ty_80 := gx_550.ty ty_80 (by decide)
  have ty_97 := gx_550.ty ty_97 (by decide)
  have ty_114 := gx_550.ty ty_114 (by decide)
  have ty_131 := gx_550.ty ty_131 (by decide)
  have ty_148 := gx_550.ty ty_148 (by decide)
  have ty_165 := gx_550.ty ty_165 (by decide)
  have ty_182 := gx_550.ty ty_182 (by decide)
  have ty_199 := gx_550.ty ty_199 (by decide)
  have ty_216 := gx_550.ty ty_216 (by decide)
  have ty_233 := gx_550.ty ty_233 (by decide)
  have ty_250 := gx_550.ty ty_250 (by decide)
  have ty_267 := gx_550.ty ty_267 (by decide)
  have ty_284 := gx_550.ty ty_284 (by decide)
  have ty_301 := gx_550.ty ty_301 (by decide)
  have ty_330 := gx_550.ty ty_330 (by decide)
  have ty_347 := gx_550.ty ty_347 (by decide)
  have ty_364 := gx_550.ty ty_364 (by decide)
  have ty_381 := gx_550.ty ty_381 (by decide)
  have ty_398 := gx_550.ty ty_398 (by decide)
  have ty_415 := gx_550.ty ty_415 (by decide)
  have ty_432 := gx_550.ty ty_432 (by decide)
  have ty_449 := gx_550.ty ty_449 (by decide)
  have ty_466 := gx_550.ty ty_466 (by decide)
  have ty_483 := gx_550.ty ty_483 (by decide)
  have ty_500 := gx_550.ty ty_500 (by decide)
  have ty_517 := gx_550.ty ty_517 (by decide)
  have ty_534 := gx_550.ty ty_534 (by decide)
  have hX := hX.trans gx_550
  have uh := (ee_552 h ne_549).trans uh
  have hT := hT.ty ee_552 nq_548
  refine py_putF (C := RX12) (T := TX12) (N := 54) (k := 50) (v := .ref q_540) (fs' := [.int 0, .ref q_1, .int 0, .int 0, .int 0, .int 0, .ref q_18, .ref q_35, .ref q_52, .ref q_69, .ref q_86, .ref q_103, .ref q_120, .int 0, .int 0, .ref q_137, .ref q_154, .ref q_171, .ref q_188, .int 0, .int 0, .ref q_205, .ref q_222, .ref q_239, .int 0, .int 0, .ref q_256, .ref q_273, .ref q_290, .int 0, .long 0, .int (-1), .int 50, .int 0, .int 10, .ref q_319, .ref q_336, .ref q_353, .ref q_370, .ref q_387, .ref q_404, .ref q_421, .ref q_438, .int 0, .ref q_455, .ref q_472, .ref q_489, .ref q_506, .long 0, .ref q_523, .ref q_540, .int 0, .long 0, .int 0]) (ty0 := tyX12) G0 hin hw tyX12_ok nmX12 in_X12_init_X12 rfl h_538 (by decide) (by decide +kernel) rfl rfl rfl rfl rfl (Nat.le_of_ble_eq_true rfl) rfl dX12_init_284 (fun f_553 H_554 locs h_555 x_556 hw => ?_)
  have hZ := hZ.unt uh x_556
  have hT := hT.ext x_556
  obtain ⟨G_558, gx_557, hZ, hth, hrr, ee_558⟩ := hZ.ty (c := 13) (r := (fun j => match j with | 1 => q_1 | 6 => q_18 | 7 => q_35 | 8 => q_52 | 9 => q_69 | 10 => q_86 | 11 => q_103 | 12 => q_120 | 15 => q_137 | 16 => q_154 | 17 => q_171 | 18 => q_188 | 21 => q_205 | 22 => q_222 | 23 => q_239 | 26 => q_256 | 27 => q_273 | 28 => q_290 | 35 => q_319 | 36 => q_336 | 37 => q_353 | 38 => q_370 | 39 => q_387 | 40 => q_404 | 41 => q_421 | 42 => q_438 | 44 => q_455 | 45 => q_472 | 46 => q_489 | 47 => q_506 | 49 => q_523 | 50 => q_540 | _ => 0)) uh (by decide) h_555.1 (fun G1 gg e1 hr => ⟨0, 0, 0, 0, 0, 0, 0, 0, 0, 0, 0, 0, 0, (-1), 50, 0, 10, 0, 0, 0, 0, 0, by rw [hr 1, hr 6, hr 7, hr 8, hr 9, hr 10, hr 11, hr 12, hr 15, hr 16, hr 17, hr 18, hr 21, hr 22, hr 23, hr 26, hr 27, hr 28, hr 35, hr 36, hr 37, hr 38, hr 39, hr 40, hr 41, hr 42, hr 44, hr 45, hr 46, hr 47, hr 49, hr 50]; exact h_555.2, ⟨by decide, by decide⟩, ⟨by decide, by decide⟩, ⟨by decide, by decide⟩, ⟨by decide, by decide⟩, ⟨by decide, by decide⟩, ⟨by decide, by decide⟩, ⟨by decide, by decide⟩, ⟨by decide, by decide⟩, ⟨by decide, by decide⟩, ⟨by decide, by decide⟩, ⟨by decide, by decide⟩, ⟨by decide, by decide⟩⟩) (fun G1 gg e1 hr => ⟨by rw [hr 1]; exact gg.ty ty_12 (by decide), by rw [hr 6]; exact gg.ty ty_29 (by decide), by rw [hr 7]; exact gg.ty ty_46 (by decide), by rw [hr 8]; exact gg.ty ty_63 (by decide), by rw [hr 9]; exact gg.ty ty_80 (by decide), by rw [hr 10]; exact gg.ty ty_97 (by decide), by rw [hr 11]; exact gg.ty ty_114 (by decide), by rw [hr 12]; exact gg.ty ty_131 (by decide), by rw [hr 15]; exact gg.ty ty_148 (by decide), by rw [hr 16]; exact gg.ty ty_165 (by decide), by rw [hr 17]; exact gg.ty ty_182 (by decide), by rw [hr 18]; exact gg.ty ty_199 (by decide), by rw [hr 21]; exact gg.ty ty_216 (by decide), by rw [hr 22]; exact gg.ty ty_233 (by decide), by rw [hr 23]; exact gg.ty ty_250 (by decide), by rw [hr 26]; exact gg.ty ty_267 (by decide), by rw [hr 27]; exact gg.ty ty_284 (by decide), by rw [hr 28]; exact gg.ty ty_301 (by decide), by rw [hr 35]; exact gg.ty ty_330 (by decide), by rw [hr 36]; exact gg.ty ty_347 (by decide), by rw [hr 37]; exact gg.ty ty_364 (by decide), by rw [hr 38]; exact gg.ty ty_381 (by decide), by rw [hr 39]; exact gg.ty ty_398 (by decide), by rw [hr 40]; exact gg.ty ty_415 (by decide), by rw [hr 41]; exact gg.ty ty_432 (by decide), by rw [hr 42]; exact gg.ty ty_449 (by decide), by rw [hr 44]; exact gg.ty ty_466 (by decide), by rw [hr 45]; exact gg.ty ty_483 (by decide), by rw [hr 46]; exact gg.ty ty_500 (by decide), by rw [hr 47]; exact gg.ty ty_517 (by decide), by rw [hr 49]; exact gg.ty ty_534 (by decide), by rw [hr 50]; exact gg.ty ty_551 (by decide)⟩) (fun e => absurd e (by decide))
  have ty_12 := gx_557.ty ty_12 (by decide)
  have ty_29 := gx_557.ty ty_29 (by decide)
  have ty_46 := gx_557.ty ty_46 (by decide)
  have ty_63 := gx_557.ty ty_63 (by decide)
  have ty_80 := gx_557.ty ty_80 (by decide)
  have ty_97 := gx_557.ty ty_97 (by decide)
  have ty_114 := gx_557.ty ty_114 (by decide)
  have ty_131 := gx_557.ty ty_131 (by decide)
  have ty_148 := gx_557.ty ty_148 (by decide)
  have ty_165 := gx_557.ty ty_165 (by decide)
  have ty_182 := gx_557.ty ty_182 (by decide)
  have ty_199 := gx_557.ty ty_199 (by decide)
  have ty_216 := gx_557.ty ty_216 (by decide)
  have ty_233 := gx_557.ty ty_233 (by decide)
  have ty_250 := gx_557.ty ty_250 (by decide)
  have ty_267 := gx_557.ty ty_267 (by decide)
  have ty_284 := gx_557.ty ty_284 (by decide)
  have ty_301 := gx_557.ty ty_301 (by decide)
  have ty_330 := gx_557.ty ty_330 (by decide)
  have ty_347 := gx_557.ty ty_347 (by decide)
  have ty_364 := gx_557.ty ty_364 (by decide)
  have ty_381 := gx_557.ty ty_381 (by decide)
  have ty_398 := gx_557.ty ty_398 (by decide)
  have ty_415 := gx_557.ty ty_415 (by decide)
  have ty_432 := gx_557.ty ty_432 (by decide)
  have ty_449 := gx_557.ty ty_449 (by decide)
  have ty_466 := gx_557.ty ty_466 (by decide)
  have ty_483 := gx_557.ty ty_483 (by decide)
  have ty_500 := gx_557.ty ty_500 (by decide)
  have ty_517 := gx_557.ty ty_517 (by decide)
  have ty_534 := gx_557.ty ty_534 (by decide)
  have ty_551 := gx_557.ty ty_551 (by decide)
  have hX := hX.trans gx_557
  have hT : NTR L f G h _ _ G_558 := fun b hb hn => ⟨(hT b hb hn).1, (hT b hb hn).2.1, (ee_558 b hn).trans (hT b hb hn).2.2⟩
  exact py_vret G0 hr hlk hw ⟨G_558, hX, hZ, hth, hT, ⟨by rw [mi_row h_555 31 rfl, mi_row h_555 13 rfl]; decide, fun n a b => absurd b (by rw [mi_row h_555 13 rfl]; have z : (0 : Int32).toInt = 0 := rfl; omega)⟩, (show mi _ h 2 = 0 from mi_row h_555 2 rfl), (show mi _ h 13 = 0 from mi_row h_555 13 rfl), (show mi _ h 25 = 0 from mi_row h_555 25 rfl), (show mi _ h 29 = 0 from mi_row h_555 29 rfl), (show mi _ h 53 = 0 from mi_row h_555 53 rfl)⟩ dX12_init_287
