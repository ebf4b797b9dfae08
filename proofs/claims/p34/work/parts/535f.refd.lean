theorem dX12_needs_0 : decode cX12_needs 0 = .ok (.aload_n 0, 1) := by decide +kernel
theorem dX12_needs_1 : decode cX12_needs 1 = .ok (.iload_n 1, 1) := by decide +kernel
theorem dX12_needs_2 : decode cX12_needs 2 = .ok (.invokevirtual 347, 3) := by decide +kernel
theorem dX12_needs_5 : decode cX12_needs 5 = .ok (.ifCond .eq 11, 3) := by decide +kernel
theorem dX12_needs_8 : decode cX12_needs 8 = .ok (.aload_n 0, 1) := by decide +kernel
theorem dX12_needs_9 : decode cX12_needs 9 = .ok (.iload_n 1, 1) := by decide +kernel
theorem dX12_needs_10 : decode cX12_needs 10 = .ok (.invokevirtual 382, 3) := by decide +kernel
theorem dX12_needs_13 : decode cX12_needs 13 = .ok (.ifCond .ne 5, 3) := by decide +kernel
theorem dX12_needs_16 : decode cX12_needs 16 = .ok (.iconst (-1), 1) := by decide +kernel
theorem dX12_needs_17 : decode cX12_needs 17 = .ok (.ireturn, 1) := by decide +kernel
theorem dX12_needs_18 : decode cX12_needs 18 = .ok (.iconst 0, 1) := by decide +kernel
theorem dX12_needs_19 : decode cX12_needs 19 = .ok (.istore_n 2, 1) := by decide +kernel
theorem dX12_needs_20 : decode cX12_needs 20 = .ok (.iload_n 2, 1) := by decide +kernel
theorem dX12_needs_21 : decode cX12_needs 21 = .ok (.aload_n 0, 1) := by decide +kernel
theorem dX12_needs_22 : decode cX12_needs 22 = .ok (.getfield 302, 3) := by decide +kernel
theorem dX12_needs_25 : decode cX12_needs 25 = .ok (.if_icmp .ge 29, 3) := by decide +kernel
theorem dX12_needs_28 : decode cX12_needs 28 = .ok (.aload_n 0, 1) := by decide +kernel
theorem dX12_needs_29 : decode cX12_needs 29 = .ok (.getfield 98, 3) := by decide +kernel
theorem dX12_needs_32 : decode cX12_needs 32 = .ok (.iload_n 2, 1) := by decide +kernel
theorem dX12_needs_33 : decode cX12_needs 33 = .ok (.iload_n 2, 1) := by decide +kernel
theorem dX12_needs_34 : decode cX12_needs 34 = .ok (.aload_n 0, 1) := by decide +kernel
theorem dX12_needs_35 : decode cX12_needs 35 = .ok (.iload_n 1, 1) := by decide +kernel
theorem dX12_needs_36 : decode cX12_needs 36 = .ok (.invokevirtual 351, 3) := by decide +kernel
theorem dX12_needs_39 : decode cX12_needs 39 = .ok (.if_icmp .ne 7, 3) := by decide +kernel
theorem dX12_needs_42 : decode cX12_needs 42 = .ok (.iconst 0, 1) := by decide +kernel
theorem dX12_needs_43 : decode cX12_needs 43 = .ok (.goto 4, 3) := by decide +kernel
theorem dX12_needs_46 : decode cX12_needs 46 = .ok (.iconst (-1), 1) := by decide +kernel
theorem dX12_needs_47 : decode cX12_needs 47 = .ok (.iastore, 1) := by decide +kernel
theorem dX12_needs_48 : decode cX12_needs 48 = .ok (.iinc 2 1, 3) := by decide +kernel
theorem dX12_needs_51 : decode cX12_needs 51 = .ok (.goto (-31), 3) := by decide +kernel
theorem dX12_needs_54 : decode cX12_needs 54 = .ok (.iconst 0, 1) := by decide +kernel
theorem dX12_needs_55 : decode cX12_needs 55 = .ok (.istore_n 2, 1) := by decide +kernel
theorem dX12_needs_56 : decode cX12_needs 56 = .ok (.iload_n 2, 1) := by decide +kernel
theorem dX12_needs_57 : decode cX12_needs 57 = .ok (.aload_n 0, 1) := by decide +kernel
theorem dX12_needs_58 : decode cX12_needs 58 = .ok (.getfield 302, 3) := by decide +kernel
theorem dX12_needs_61 : decode cX12_needs 61 = .ok (.if_icmp .gt 121, 3) := by decide +kernel
theorem dX12_needs_64 : decode cX12_needs 64 = .ok (.iconst 0, 1) := by decide +kernel
theorem dX12_needs_65 : decode cX12_needs 65 = .ok (.istore_n 3, 1) := by decide +kernel
theorem dX12_needs_66 : decode cX12_needs 66 = .ok (.iload_n 3, 1) := by decide +kernel
theorem dX12_needs_67 : decode cX12_needs 67 = .ok (.aload_n 0, 1) := by decide +kernel
theorem dX12_needs_68 : decode cX12_needs 68 = .ok (.getfield 302, 3) := by decide +kernel
theorem dX12_needs_71 : decode cX12_needs 71 = .ok (.if_icmp .ge 39, 3) := by decide +kernel
theorem dX12_needs_74 : decode cX12_needs 74 = .ok (.aload_n 0, 1) := by decide +kernel
theorem dX12_needs_75 : decode cX12_needs 75 = .ok (.getfield 98, 3) := by decide +kernel
theorem dX12_needs_78 : decode cX12_needs 78 = .ok (.iload_n 3, 1) := by decide +kernel
theorem dX12_needs_79 : decode cX12_needs 79 = .ok (.iaload, 1) := by decide +kernel
theorem dX12_needs_80 : decode cX12_needs 80 = .ok (.iload_n 2, 1) := by decide +kernel
theorem dX12_needs_81 : decode cX12_needs 81 = .ok (.if_icmp .ne 23, 3) := by decide +kernel
theorem dX12_needs_84 : decode cX12_needs 84 = .ok (.aload_n 0, 1) := by decide +kernel
theorem dX12_needs_85 : decode cX12_needs 85 = .ok (.iload_n 3, 1) := by decide +kernel
theorem dX12_needs_86 : decode cX12_needs 86 = .ok (.invokevirtual 333, 3) := by decide +kernel
theorem dX12_needs_89 : decode cX12_needs 89 = .ok (.ifCond .gt 13, 3) := by decide +kernel
theorem dX12_needs_92 : decode cX12_needs 92 = .ok (.iload_n 3, 1) := by decide +kernel
theorem dX12_needs_93 : decode cX12_needs 93 = .ok (.aload_n 0, 1) := by decide +kernel
theorem dX12_needs_94 : decode cX12_needs 94 = .ok (.iload_n 1, 1) := by decide +kernel
theorem dX12_needs_95 : decode cX12_needs 95 = .ok (.iconst 1, 1) := by decide +kernel
theorem dX12_needs_96 : decode cX12_needs 96 = .ok (.invokevirtual 287, 3) := by decide +kernel
theorem dX12_needs_99 : decode cX12_needs 99 = .ok (.if_icmp .ne 5, 3) := by decide +kernel
theorem dX12_needs_102 : decode cX12_needs 102 = .ok (.iload_n 2, 1) := by decide +kernel
theorem dX12_needs_103 : decode cX12_needs 103 = .ok (.ireturn, 1) := by decide +kernel
theorem dX12_needs_104 : decode cX12_needs 104 = .ok (.iinc 3 1, 3) := by decide +kernel
theorem dX12_needs_107 : decode cX12_needs 107 = .ok (.goto (-41), 3) := by decide +kernel
theorem dX12_needs_110 : decode cX12_needs 110 = .ok (.iconst 0, 1) := by decide +kernel
theorem dX12_needs_111 : decode cX12_needs 111 = .ok (.istore_n 3, 1) := by decide +kernel
theorem dX12_needs_112 : decode cX12_needs 112 = .ok (.iload_n 3, 1) := by decide +kernel
theorem dX12_needs_113 : decode cX12_needs 113 = .ok (.aload_n 0, 1) := by decide +kernel
theorem dX12_needs_114 : decode cX12_needs 114 = .ok (.getfield 290, 3) := by decide +kernel
theorem dX12_needs_117 : decode cX12_needs 117 = .ok (.if_icmp .ge 59, 3) := by decide +kernel
theorem dX12_needs_120 : decode cX12_needs 120 = .ok (.aload_n 0, 1) := by decide +kernel
theorem dX12_needs_121 : decode cX12_needs 121 = .ok (.iload_n 3, 1) := by decide +kernel
theorem dX12_needs_122 : decode cX12_needs 122 = .ok (.invokevirtual 382, 3) := by decide +kernel
theorem dX12_needs_125 : decode cX12_needs 125 = .ok (.ifCond .eq 45, 3) := by decide +kernel
theorem dX12_needs_128 : decode cX12_needs 128 = .ok (.aload_n 0, 1) := by decide +kernel
theorem dX12_needs_129 : decode cX12_needs 129 = .ok (.getfield 98, 3) := by decide +kernel
theorem dX12_needs_132 : decode cX12_needs 132 = .ok (.aload_n 0, 1) := by decide +kernel
theorem dX12_needs_133 : decode cX12_needs 133 = .ok (.iload_n 3, 1) := by decide +kernel
theorem dX12_needs_134 : decode cX12_needs 134 = .ok (.iconst 1, 1) := by decide +kernel
theorem dX12_needs_135 : decode cX12_needs 135 = .ok (.invokevirtual 287, 3) := by decide +kernel
theorem dX12_needs_138 : decode cX12_needs 138 = .ok (.iaload, 1) := by decide +kernel
theorem dX12_needs_139 : decode cX12_needs 139 = .ok (.iload_n 2, 1) := by decide +kernel
theorem dX12_needs_140 : decode cX12_needs 140 = .ok (.if_icmp .ne 30, 3) := by decide +kernel
theorem dX12_needs_143 : decode cX12_needs 143 = .ok (.aload_n 0, 1) := by decide +kernel
theorem dX12_needs_144 : decode cX12_needs 144 = .ok (.getfield 98, 3) := by decide +kernel
theorem dX12_needs_147 : decode cX12_needs 147 = .ok (.aload_n 0, 1) := by decide +kernel
theorem dX12_needs_148 : decode cX12_needs 148 = .ok (.iload_n 3, 1) := by decide +kernel
theorem dX12_needs_149 : decode cX12_needs 149 = .ok (.invokevirtual 351, 3) := by decide +kernel
theorem dX12_needs_152 : decode cX12_needs 152 = .ok (.iaload, 1) := by decide +kernel
theorem dX12_needs_153 : decode cX12_needs 153 = .ok (.iconst (-1), 1) := by decide +kernel
theorem dX12_needs_154 : decode cX12_needs 154 = .ok (.if_icmp .ne 16, 3) := by decide +kernel
theorem dX12_needs_157 : decode cX12_needs 157 = .ok (.aload_n 0, 1) := by decide +kernel
theorem dX12_needs_158 : decode cX12_needs 158 = .ok (.getfield 98, 3) := by decide +kernel
theorem dX12_needs_161 : decode cX12_needs 161 = .ok (.aload_n 0, 1) := by decide +kernel
theorem dX12_needs_162 : decode cX12_needs 162 = .ok (.iload_n 3, 1) := by decide +kernel
theorem dX12_needs_163 : decode cX12_needs 163 = .ok (.invokevirtual 351, 3) := by decide +kernel
theorem dX12_needs_166 : decode cX12_needs 166 = .ok (.iload_n 2, 1) := by decide +kernel
theorem dX12_needs_167 : decode cX12_needs 167 = .ok (.iconst 1, 1) := by decide +kernel
theorem dX12_needs_168 : decode cX12_needs 168 = .ok (.iadd, 1) := by decide +kernel
theorem dX12_needs_169 : decode cX12_needs 169 = .ok (.iastore, 1) := by decide +kernel
theorem dX12_needs_170 : decode cX12_needs 170 = .ok (.iinc 3 1, 3) := by decide +kernel
theorem dX12_needs_173 : decode cX12_needs 173 = .ok (.goto (-61), 3) := by decide +kernel
theorem dX12_needs_176 : decode cX12_needs 176 = .ok (.iinc 2 1, 3) := by decide +kernel
theorem dX12_needs_179 : decode cX12_needs 179 = .ok (.goto (-123), 3) := by decide +kernel
theorem dX12_needs_182 : decode cX12_needs 182 = .ok (.iconst (-1), 1) := by decide +kernel
theorem dX12_needs_183 : decode cX12_needs 183 = .ok (.ireturn, 1) := by decide +kernel
def w_X12_needs : List Cond := .code yX12_needs cX12_needs 4 (some .int) :: ([Cond.methodLink RX12 347 yX12_isFamily, Cond.instanceMethod yX12_isFamily, Cond.selects RX12 yX12_isFamily yX12_isFamily, Cond.initialized RX12, Cond.methodLink RX12 382 yX12_wants, Cond.instanceMethod yX12_wants, Cond.selects RX12 yX12_wants yX12_wants, Cond.fieldLink RX12 302 "HeadYearModel" "levels" "I", Cond.fieldLink RX12 290 "HeadYearModel" "families" "I", Cond.fieldLink RX12 98 "HeadYearModel" "far" "[I", Cond.methodLink RX12 287 yX12_of, Cond.instanceMethod yX12_of, Cond.selects RX12 yX12_of yX12_of, Cond.methodLink RX12 351 yX12_want, Cond.instanceMethod yX12_want, Cond.selects RX12 yX12_want yX12_want, Cond.methodLink RX12 333 yX12_empties, Cond.instanceMethod yX12_empties, Cond.selects RX12 yX12_empties yX12_empties] ++ (u_ws RX12 TX12 54 ++ (w_X12_isFamily ++ (w_X12_wants ++ (w_X12_of ++ (w_X12_want ++ (w_X12_empties ++ ([]))))))))
theorem in_X12_needs_X12 : ∀ w ∈ u_ws RX12 TX12 54, w ∈ w_X12_needs := fun _ h => List.mem_cons_of_mem _ (List.mem_append_right _ (List.mem_append_left _ h))
theorem gg_X12_needs_X12_isFamily : GoodIn w_X12_needs w_X12_isFamily := goodIn_sub (fun _ h => List.mem_cons_of_mem _ (List.mem_append_right _ (List.mem_append_right _ (List.mem_append_left _ h)))) (by decide +kernel)
theorem gg_X12_needs_X12_wants : GoodIn w_X12_needs w_X12_wants := goodIn_sub (fun _ h => List.mem_cons_of_mem _ (List.mem_append_right _ (List.mem_append_right _ (List.mem_append_right _ (List.mem_append_left _ h))))) (by decide +kernel)
theorem gg_X12_needs_X12_of : GoodIn w_X12_needs w_X12_of := goodIn_sub (fun _ h => List.mem_cons_of_mem _ (List.mem_append_right _ (List.mem_append_right _ (List.mem_append_right _ (List.mem_append_right _ (List.mem_append_left _ h)))))) (by decide +kernel)
theorem gg_X12_needs_X12_want : GoodIn w_X12_needs w_X12_want := goodIn_sub (fun _ h => List.mem_cons_of_mem _ (List.mem_append_right _ (List.mem_append_right _ (List.mem_append_right _ (List.mem_append_right _ (List.mem_append_right _ (List.mem_append_left _ h))))))) (by decide +kernel)
theorem gg_X12_needs_X12_empties : GoodIn w_X12_needs w_X12_empties := goodIn_sub (fun _ h => List.mem_cons_of_mem _ (List.mem_append_right _ (List.mem_append_right _ (List.mem_append_right _ (List.mem_append_right _ (List.mem_append_right _ (List.mem_append_right _ (List.mem_append_left _ h)))))))) (by decide +kernel)
theorem g_X12_needs_X12_empties_333 : GoodIn w_X12_needs (wsV RX12 333 RX12 yX12_empties w_X12_empties) := goodIn_app (goodIn_of _ (by decide +kernel)) gg_X12_needs_X12_empties
theorem g_X12_needs_X12_isFamily_347 : GoodIn w_X12_needs (wsV RX12 347 RX12 yX12_isFamily w_X12_isFamily) := goodIn_app (goodIn_of _ (by decide +kernel)) gg_X12_needs_X12_isFamily
theorem g_X12_needs_X12_of_287 : GoodIn w_X12_needs (wsV RX12 287 RX12 yX12_of w_X12_of) := goodIn_app (goodIn_of _ (by decide +kernel)) gg_X12_needs_X12_of
theorem g_X12_needs_X12_want_351 : GoodIn w_X12_needs (wsV RX12 351 RX12 yX12_want w_X12_want) := goodIn_app (goodIn_of _ (by decide +kernel)) gg_X12_needs_X12_want
theorem g_X12_needs_X12_wants_382 : GoodIn w_X12_needs (wsV RX12 382 RX12 yX12_wants w_X12_wants) := goodIn_app (goodIn_of _ (by decide +kernel)) gg_X12_needs_X12_wants
set_option maxHeartbeats 4000000 in
set_option maxRecDepth 100000 in
theorem c_X12_needs (l : Launch) (E : py_E) (G : wf_G) (L : List Nat) (f : py_F) (sz : Nat) (u : Nat) (a : Int32) (hG : GT G) (hWF : WF E G L f) (Tu : G.1 u = 13) : Met l yX12_needs w_X12_needs ({ frames := 4, cells := 0, slots := 0, locals := 91 }) (py_Pc E [.ref u, .int a] L f sz) (py_Qi E L f sz (fun _ L1 f1 => WF E G L1 f1 ∧ KP G [66] false f f1 ∧ FK [] f f1 u)) 0 0 (va_A (va_pl L f) sz) := by
  refine Met.ofW (cc := cX12_needs) (maxL := 4) (ret := (some .int)) (by decide) rfl ?_
  intro p e s m args below meth c s₁ B hml hv
  obtain ⟨rfl, rfl, hw⟩ := py_start hv
  have G0 : CallFix p m c cX12_needs 4 s _ w_X12_needs RX12 := ⟨B.exec, B.bytes, hml, findClass_of_methodNamed B.named, atoms_spec (ws := w_X12_needs) B.pre⟩
  have hr := B.returns
  have hlk := B.notSynchronized
  have kcm1 : (-1 : Int32).toInt = -1 := rfl
  have kc0 : (0 : Int32).toInt = 0 := rfl
  have kc1 : (1 : Int32).toInt = 1 := rfl
  have hl := lv_entry ([.ref u, .int a]) (n := 4) (Nat.le_of_ble_eq_true rfl)
  rw [lg_entry_eq]
  generalize (lg_sl ([.ref u, .int a]) ++ List.replicate (4 - (lg_sl ([.ref u, .int a])).length) Slot.unset).toArray = ls at hl ⊢
  have hl : lv_has ls 4 [(0, .ref u), (1, .int a)] := hl
  have hFK : FK [] f f u := FK.refl
  have hKP : KP G [66] false f f := KP.refl
  refine lv_aload_n G0.1 G0.2.1 dX12_needs_0 rfl (lv_at hl 0 rfl) ?_
  refine lv_iload_n G0.1 G0.2.1 dX12_needs_1 rfl (lv_at hl 1 rfl) ?_
  obtain ⟨v_1, v_2, v_3, v_4, v_5, v_6, v_7, v_8, v_9, v_10, v_11, v_12, y_13, v_14, v_15, v_16, v_17, v_18, y_19, v_20, y_21, v_22, hr_35, b_23, b_24, b_25, b_26, b_27, b_28, b_29, b_30, b_31, b_32, b_33, b_34⟩ := wg_12 hWF Tu
  refine py_calli hw (va_runV (As := [.int a]) (rest := []) G0 (c_X12_isFamily l E G L f s.heap.size u a hG hWF Tu) (cwV 1 G0.2.2.2.2 g_X12_needs_X12_isFamily_347 rfl rfl rfl (by decide +kernel) ⟨(Nat.le_of_ble_eq_true rfl), (Nat.le_of_ble_eq_true rfl)⟩) (py_preV hw (C := RX12) (T := TX12) (N := 54) rfl hr_35) rfl rfl hl.1 rfl (lv_room (Nat.le_of_ble_eq_true rfl)) dX12_needs_2 ⟨(Nat.le_of_ble_eq_true rfl), (Nat.le_of_ble_eq_true rfl)⟩) (fun r_40 L_36 f_37 H_38 locs hp_39 hw => ?_)
  obtain ⟨b_42, en_41, rfl, rfl⟩ := hp_39
  refine lv_if_eq (tgt := 16) G0.1 G0.2.1 dX12_needs_5 (by decide) (fun c_43 => ?_) (fun c_43 => ?_)
  · skip
    have tc_43 := ti_eq c_43
    clear en_41
    refine lv_iconst (v := (-1)) G0.1 G0.2.1 dX12_needs_16 (by decide) ?_
    exact py_iret G0 hr rfl hlk hw ⟨hWF, hKP, hFK⟩ dX12_needs_17
  · skip
    have tc_43 := ti_ne c_43
    replace en_41 := en_41 (by omega)
    refine lv_aload_n G0.1 G0.2.1 dX12_needs_8 rfl (lv_at hl 0 rfl) ?_
    refine lv_iload_n G0.1 G0.2.1 dX12_needs_9 rfl (lv_at hl 1 rfl) ?_
    refine py_calli hw (va_runV (As := [.int a]) (rest := []) G0 (c_X12_wants l E G L f H_38.size u a hG hWF Tu ⟨by omega, by omega⟩) (cwV 1 G0.2.2.2.2 g_X12_needs_X12_wants_382 rfl rfl rfl (by decide +kernel) ⟨(Nat.le_of_ble_eq_true rfl), (Nat.le_of_ble_eq_true rfl)⟩) (py_preV hw (C := RX12) (T := TX12) (N := 54) rfl hr_35) rfl rfl hl.1 rfl (lv_room (Nat.le_of_ble_eq_true rfl)) dX12_needs_10 ⟨(Nat.le_of_ble_eq_true rfl), (Nat.le_of_ble_eq_true rfl)⟩) (fun r_48 L_44 f_45 H_46 locs hp_47 hw => ?_)
    obtain ⟨b_52, en_49, en_50, en_51, rfl, rfl⟩ := hp_47
    refine lv_if_ne (tgt := 18) G0.1 G0.2.1 dX12_needs_13 (by decide) (fun c_53 => ?_) (fun c_53 => ?_)
    · skip
      have tc_53 := ti_ne c_53
      replace en_51 := en_51 (by omega)
      refine lv_iconst (v := 0) G0.1 G0.2.1 dX12_needs_18 (by decide) ?_
      refine lv_istore_n (lv' := [(2, .int 0), (0, .ref u), (1, .int a)]) G0.1 G0.2.1 dX12_needs_19 rfl hl (by decide) rfl (fun ls hl => ?_)
      have lo_20 : ∀ n_20 : Nat, ∀ (v_54 : Int32) (L_j20 : List Nat) (f_j20 : py_F) (H_j20 : Heap) (locs : List Loc) (ls : Array Slot), (2147483647 - v_54.toInt).toNat = n_20 → (0 ≤ v_54.toInt ∧ v_54.toInt ≤ 2147483647) → WF E G L_j20 f_j20 → KP G [66] false f f_j20 → FK [] f f_j20 u → py_W E (va_A (va_pl L f) s.heap.size) s L_j20 f_j20 H_j20 locs → lv_has ls 4 [(2, .int v_54), (0, .ref u), (1, .int a)] → W p l e (headSpec w_X12_needs ({ frames := 4, cells := 0, slots := 0, locals := 91 })).room s m ([.ref u, .int a] : List Value).toArray below meth c H_j20 locs 0 0 (MQ below (py_Qi E L f s.heap.size (fun _ L1 f1 => WF E G L1 f1 ∧ KP G [66] false f f1 ∧ FK [] f f1 u)) ([.ref u, .int a] : List Value).toArray s 0 0 (va_A (va_pl L f) s.heap.size)) (F0 m 20 ls []) := by
        intro n_20
        induction n_20 using Nat.strongRecOn with
        | _ n_20 ih_20 =>
          intro v_54 L_j20 f_j20 H_j20 locs ls hn_20 bv_54 hWF hKP hFK hw hl
          refine lv_iload_n G0.1 G0.2.1 dX12_needs_20 rfl (lv_at hl 0 rfl) ?_
          refine lv_aload_n G0.1 G0.2.1 dX12_needs_21 rfl (lv_at hl 1 rfl) ?_
          obtain ⟨v_55, v_56, v_57, v_58, v_59, v_60, v_61, v_62, v_63, v_64, v_65, v_66, y_67, v_68, v_69, v_70, v_71, v_72, y_73, v_74, y_75, v_76, hr_89, b_77, b_78, b_79, b_80, b_81, b_82, b_83, b_84, b_85, b_86, b_87, b_88⟩ := wg_12 hWF Tu
          refine py_get (C := RX12) (T := TX12) (N := 54) (k := 24) (v := .int v_64) G0 hw in_X12_needs_X12 rfl hr_89 (by decide) (by decide +kernel) rfl dX12_needs_22 ?_
          refine lv_icmp_ge (tgt := 54) G0.1 G0.2.1 dX12_needs_25 (by decide) (fun c_90 => ?_) (fun c_90 => ?_)
          · skip
            have tc_90 := ti_le c_90
            refine lv_iconst (v := 0) G0.1 G0.2.1 dX12_needs_54 (by decide) ?_
            refine lv_istore_n (lv' := [(2, .int 0), (0, .ref u), (1, .int a)]) G0.1 G0.2.1 dX12_needs_55 rfl hl (by decide) rfl (fun ls hl => ?_)
            have lo_56 : ∀ n_56 : Nat, ∀ (v_91 : Int32) (L_j56 : List Nat) (f_j56 : py_F) (H_j56 : Heap) (locs : List Loc) (ls : Array Slot), (2147483647 - v_91.toInt).toNat = n_56 → (0 ≤ v_91.toInt ∧ v_91.toInt ≤ 2147483647) → WF E G L_j56 f_j56 → KP G [66] false f f_j56 → FK [] f f_j56 u → py_W E (va_A (va_pl L f) s.heap.size) s L_j56 f_j56 H_j56 locs → lv_has ls 4 [(2, .int v_91), (0, .ref u), (1, .int a)] → W p l e (headSpec w_X12_needs ({ frames := 4, cells := 0, slots := 0, locals := 91 })).room s m ([.ref u, .int a] : List Value).toArray below meth c H_j56 locs 0 0 (MQ below (py_Qi E L f s.heap.size (fun _ L1 f1 => WF E G L1 f1 ∧ KP G [66] false f f1 ∧ FK [] f f1 u)) ([.ref u, .int a] : List Value).toArray s 0 0 (va_A (va_pl L f) s.heap.size)) (F0 m 56 ls []) := by
              intro n_56
              induction n_56 using Nat.strongRecOn with
              | _ n_56 ih_56 =>
                intro v_91 L_j56 f_j56 H_j56 locs ls hn_56 bv_91 hWF hKP hFK hw hl
                refine lv_iload_n G0.1 G0.2.1 dX12_needs_56 rfl (lv_at hl 0 rfl) ?_
                refine lv_aload_n G0.1 G0.2.1 dX12_needs_57 rfl (lv_at hl 1 rfl) ?_
                obtain ⟨v_92, v_93, v_94, v_95, v_96, v_97, v_98, v_99, v_100, v_101, v_102, v_103, y_104, v_105, v_106, v_107, v_108, v_109, y_110, v_111, y_112, v_113, hr_126, b_114, b_115, b_116, b_117, b_118, b_119, b_120, b_121, b_122, b_123, b_124, b_125⟩ := wg_12 hWF Tu
                refine py_get (C := RX12) (T := TX12) (N := 54) (k := 24) (v := .int v_101) G0 hw in_X12_needs_X12 rfl hr_126 (by decide) (by decide +kernel) rfl dX12_needs_58 ?_
                refine lv_icmp_gt (tgt := 182) G0.1 G0.2.1 dX12_needs_61 (by decide) (fun c_127 => ?_) (fun c_127 => ?_)
                · skip
                  have tc_127 := ti_lt c_127
                  refine lv_iconst (v := (-1)) G0.1 G0.2.1 dX12_needs_182 (by decide) ?_
                  exact py_iret G0 hr rfl hlk hw ⟨hWF, hKP, hFK⟩ dX12_needs_183
                · skip
                  have tc_127 := ti_nlt c_127
                  refine lv_iconst (v := 0) G0.1 G0.2.1 dX12_needs_64 (by decide) ?_
                  refine lv_istore_n (lv' := [(3, .int 0), (2, .int v_91), (0, .ref u), (1, .int a)]) G0.1 G0.2.1 dX12_needs_65 rfl hl (by decide) rfl (fun ls hl => ?_)
                  have lo_66 : ∀ n_66 : Nat, ∀ (v_128 : Int32) (H_j66 : Heap) (locs : List Loc) (ls : Array Slot), (2147483647 - v_128.toInt).toNat = n_66 → (0 ≤ v_128.toInt ∧ v_128.toInt ≤ 2147483647) → py_W E (va_A (va_pl L f) s.heap.size) s L_j56 f_j56 H_j66 locs → lv_has ls 4 [(3, .int v_128), (2, .int v_91), (0, .ref u), (1, .int a)] → W p l e (headSpec w_X12_needs ({ frames := 4, cells := 0, slots := 0, locals := 91 })).room s m ([.ref u, .int a] : List Value).toArray below meth c H_j66 locs 0 0 (MQ below (py_Qi E L f s.heap.size (fun _ L1 f1 => WF E G L1 f1 ∧ KP G [66] false f f1 ∧ FK [] f f1 u)) ([.ref u, .int a] : List Value).toArray s 0 0 (va_A (va_pl L f) s.heap.size)) (F0 m 66 ls []) := by
                    intro n_66
                    induction n_66 using Nat.strongRecOn with
                    | _ n_66 ih_66 =>
                      intro v_128 H_j66 locs ls hn_66 bv_128 hw hl
                      refine lv_iload_n G0.1 G0.2.1 dX12_needs_66 rfl (lv_at hl 0 rfl) ?_
                      refine lv_aload_n G0.1 G0.2.1 dX12_needs_67 rfl (lv_at hl 2 rfl) ?_
                      refine py_get (C := RX12) (T := TX12) (N := 54) (k := 24) (v := .int v_101) G0 hw in_X12_needs_X12 rfl hr_126 (by decide) (by decide +kernel) rfl dX12_needs_68 ?_
                      refine lv_icmp_ge (tgt := 110) G0.1 G0.2.1 dX12_needs_71 (by decide) (fun c_129 => ?_) (fun c_129 => ?_)
                      · skip
                        have tc_129 := ti_le c_129
                        refine lv_iconst (v := 0) G0.1 G0.2.1 dX12_needs_110 (by decide) ?_
                        refine lv_istore_n (lv' := [(3, .int 0), (2, .int v_91), (0, .ref u), (1, .int a)]) G0.1 G0.2.1 dX12_needs_111 rfl hl (by decide) rfl (fun ls hl => ?_)
                        have lo_112 : ∀ n_112 : Nat, ∀ (v_130 : Int32) (L_j112 : List Nat) (f_j112 : py_F) (H_j112 : Heap) (locs : List Loc) (ls : Array Slot), (2147483647 - v_130.toInt).toNat = n_112 → (0 ≤ v_130.toInt ∧ v_130.toInt ≤ 2147483647) → WF E G L_j112 f_j112 → KP G [66] false f f_j112 → FK [] f f_j112 u → py_W E (va_A (va_pl L f) s.heap.size) s L_j112 f_j112 H_j112 locs → lv_has ls 4 [(3, .int v_130), (2, .int v_91), (0, .ref u), (1, .int a)] → W p l e (headSpec w_X12_needs ({ frames := 4, cells := 0, slots := 0, locals := 91 })).room s m ([.ref u, .int a] : List Value).toArray below meth c H_j112 locs 0 0 (MQ below (py_Qi E L f s.heap.size (fun _ L1 f1 => WF E G L1 f1 ∧ KP G [66] false f f1 ∧ FK [] f f1 u)) ([.ref u, .int a] : List Value).toArray s 0 0 (va_A (va_pl L f) s.heap.size)) (F0 m 112 ls []) := by
                          intro n_112
                          induction n_112 using Nat.strongRecOn with
                          | _ n_112 ih_112 =>
                            intro v_130 L_j112 f_j112 H_j112 locs ls hn_112 bv_130 hWF hKP hFK hw hl
                            refine lv_iload_n G0.1 G0.2.1 dX12_needs_112 rfl (lv_at hl 0 rfl) ?_
                            refine lv_aload_n G0.1 G0.2.1 dX12_needs_113 rfl (lv_at hl 2 rfl) ?_
                            obtain ⟨v_131, v_132, v_133, v_134, v_135, v_136, v_137, v_138, v_139, v_140, v_141, v_142, y_143, v_144, v_145, v_146, v_147, v_148, y_149, v_150, y_151, v_152, hr_165, b_153, b_154, b_155, b_156, b_157, b_158, b_159, b_160, b_161, b_162, b_163, b_164⟩ := wg_12 hWF Tu
                            refine py_get (C := RX12) (T := TX12) (N := 54) (k := 25) (v := .int v_141) G0 hw in_X12_needs_X12 rfl hr_165 (by decide) (by decide +kernel) rfl dX12_needs_114 ?_
                            refine lv_icmp_ge (tgt := 176) G0.1 G0.2.1 dX12_needs_117 (by decide) (fun c_166 => ?_) (fun c_166 => ?_)
                            · skip
                              have tc_166 := ti_le c_166
                              obtain ⟨x_167, ex_167⟩ : ∃ y : Int32, y = v_91 + 1 := ⟨_, rfl⟩
                              first | have tx_167 := ti_add ex_167 (by omega -splitDisjunctions) (by omega -splitDisjunctions) | skip
                              refine lv_iinc (v := x_167) (lv' := [(2, .int x_167), (3, .int v_130), (0, .ref u), (1, .int a)]) G0.1 G0.2.1 dX12_needs_176 hl (k := 1) rfl (show _ + (1 : Int32) = _ from ex_167.symm) (by decide) rfl (fun ls hl => ?_)
                              refine lv_goto (tgt := 56) G0.1 G0.2.1 dX12_needs_179 (by decide) ?_
                              exact ih_56 ((2147483647 - x_167.toInt).toNat) (by omega) x_167 L_j112 f_j112 _ _ ls rfl ⟨by omega, by omega⟩ hWF hKP hFK hw (lv_sub hl [0, 2, 3] rfl)
                            · skip
                              have tc_166 := ti_nle c_166
                              refine lv_aload_n G0.1 G0.2.1 dX12_needs_120 rfl (lv_at hl 2 rfl) ?_
                              refine lv_iload_n G0.1 G0.2.1 dX12_needs_121 rfl (lv_at hl 0 rfl) ?_
                              refine py_calli hw (va_runV (As := [.int v_130]) (rest := []) G0 (c_X12_wants l E G L_j112 f_j112 H_j112.size u v_130 hG hWF Tu ⟨by omega, by omega⟩) (cwV 1 G0.2.2.2.2 g_X12_needs_X12_wants_382 rfl rfl rfl (by decide +kernel) ⟨(Nat.le_of_ble_eq_true rfl), (Nat.le_of_ble_eq_true rfl)⟩) (py_preV hw (C := RX12) (T := TX12) (N := 54) rfl hr_165) rfl rfl hl.1 rfl (lv_room (Nat.le_of_ble_eq_true rfl)) dX12_needs_122 ⟨(Nat.le_of_ble_eq_true rfl), (Nat.le_of_ble_eq_true rfl)⟩) (fun r_172 L_168 f_169 H_170 locs hp_171 hw => ?_)
                              obtain ⟨b_176, en_173, en_174, en_175, rfl, rfl⟩ := hp_171
                              have jn_170 : ∀ (L_j170 : List Nat) (f_j170 : py_F) (H_j170 : Heap) (locs : List Loc) (ls : Array Slot), WF E G L_j170 f_j170 → KP G [66] false f f_j170 → FK [] f f_j170 u → py_W E (va_A (va_pl L f) s.heap.size) s L_j170 f_j170 H_j170 locs → lv_has ls 4 [(3, .int v_130), (2, .int v_91), (0, .ref u), (1, .int a)] → W p l e (headSpec w_X12_needs ({ frames := 4, cells := 0, slots := 0, locals := 91 })).room s m ([.ref u, .int a] : List Value).toArray below meth c H_j170 locs 0 0 (MQ below (py_Qi E L f s.heap.size (fun _ L1 f1 => WF E G L1 f1 ∧ KP G [66] false f f1 ∧ FK [] f f1 u)) ([.ref u, .int a] : List Value).toArray s 0 0 (va_A (va_pl L f) s.heap.size)) (F0 m 170 ls []) := by
                                intro L_j170 f_j170 H_j170 locs ls hWF hKP hFK hw hl
                                obtain ⟨x_177, ex_177⟩ : ∃ y : Int32, y = v_130 + 1 := ⟨_, rfl⟩
                                first | have tx_177 := ti_add ex_177 (by omega -splitDisjunctions) (by omega -splitDisjunctions) | skip
                                refine lv_iinc (v := x_177) (lv' := [(3, .int x_177), (2, .int v_91), (0, .ref u), (1, .int a)]) G0.1 G0.2.1 dX12_needs_170 hl (k := 0) rfl (show _ + (1 : Int32) = _ from ex_177.symm) (by decide) rfl (fun ls hl => ?_)
                                refine lv_goto (tgt := 112) G0.1 G0.2.1 dX12_needs_173 (by decide) ?_
                                exact ih_112 ((2147483647 - x_177.toInt).toNat) (by omega) x_177 L_j170 f_j170 _ _ ls rfl ⟨by omega, by omega⟩ hWF hKP hFK hw (lv_sub hl [0, 1, 2, 3] rfl)
                              refine lv_if_eq (tgt := 170) G0.1 G0.2.1 dX12_needs_125 (by decide) (fun c_178 => ?_) (fun c_178 => ?_)
                              · skip
                                have tc_178 := ti_eq c_178
                                clear en_175
                                exact jn_170 L_j112 f_j112 _ _ ls hWF hKP hFK hw (lv_sub hl [0, 1, 2, 3] rfl)
                              · skip
                                have tc_178 := ti_ne c_178
                                replace en_175 := en_175 (by omega)
                                refine lv_aload_n G0.1 G0.2.1 dX12_needs_128 rfl (lv_at hl 2 rfl) ?_
                                refine py_get (C := RX12) (T := TX12) (N := 54) (k := 44) (v := .ref (G.2 u 44)) G0 hw in_X12_needs_X12 rfl hr_165 (by decide) (by decide +kernel) rfl dX12_needs_129 ?_
                                refine lv_aload_n G0.1 G0.2.1 dX12_needs_132 rfl (lv_at hl 2 rfl) ?_
                                refine lv_iload_n G0.1 G0.2.1 dX12_needs_133 rfl (lv_at hl 0 rfl) ?_
                                refine lv_iconst (v := 1) G0.1 G0.2.1 dX12_needs_134 (by decide) ?_
                                refine py_calli hw (va_runV (As := [.int v_130, .int 1]) (rest := [.ref (G.2 u 44)]) G0 (c_X12_of l E G L_j112 f_j112 H_170.size u v_130 1 hG hWF Tu ⟨by omega, by omega⟩ ⟨by omega, by omega⟩) (cwV 2 G0.2.2.2.2 g_X12_needs_X12_of_287 rfl rfl rfl (by decide +kernel) ⟨(Nat.le_of_ble_eq_true rfl), (Nat.le_of_ble_eq_true rfl)⟩) (py_preV hw (C := RX12) (T := TX12) (N := 54) rfl hr_165) rfl rfl hl.1 rfl (lv_room (Nat.le_of_ble_eq_true rfl)) dX12_needs_135 ⟨(Nat.le_of_ble_eq_true rfl), (Nat.le_of_ble_eq_true rfl)⟩) (fun r_183 L_179 f_180 H_181 locs hp_182 hw => ?_)
                                obtain ⟨en_184, en_185, rfl, rfl⟩ := hp_182
                                have en_184 : r_183.toInt = nw f_j112 G u v_130.toInt (1 : Int) := en_184
                                have en_185 : ((1 : Int) = 0 → 0 ≤ r_183.toInt ∧ r_183.toInt ≤ 20) ∧ ((1 : Int) = 1 → -1 ≤ r_183.toInt ∧ r_183.toInt ≤ 7) := en_185
                                have br_183 := wf_free r_183
                                obtain ⟨g_186, ha_187, hi_188⟩ := wf_arr (n := 8) (lo := (-2147483648)) (hi := 2147483647) hWF (wt12_44 hG Tu) (by decide) (fun _ => rfl)
                                have rg_189 : vp_in r_183 8 := ti_in (by omega) (by omega)
                                refine py_iald G0 hw ha_187 rg_189 dX12_needs_138 ?_
                                refine lv_topi (fun x_190 ex_190 => ?_)
                                have bx_190 := wf_free x_190
                                refine lv_iload_n G0.1 G0.2.1 dX12_needs_139 rfl (lv_at hl 1 rfl) ?_
                                refine lv_icmp_ne (tgt := 170) G0.1 G0.2.1 dX12_needs_140 (by decide) (fun c_191 => ?_) (fun c_191 => ?_)
                                · skip
                                  have tc_191 := ti_ne c_191
                                  exact jn_170 L_j112 f_j112 _ _ ls hWF hKP hFK hw (lv_sub hl [0, 1, 2, 3] rfl)
                                · skip
                                  have tc_191 := ti_eq c_191
                                  refine lv_aload_n G0.1 G0.2.1 dX12_needs_143 rfl (lv_at hl 2 rfl) ?_
                                  refine py_get (C := RX12) (T := TX12) (N := 54) (k := 44) (v := .ref (G.2 u 44)) G0 hw in_X12_needs_X12 rfl hr_165 (by decide) (by decide +kernel) rfl dX12_needs_144 ?_
                                  refine lv_aload_n G0.1 G0.2.1 dX12_needs_147 rfl (lv_at hl 2 rfl) ?_
                                  refine lv_iload_n G0.1 G0.2.1 dX12_needs_148 rfl (lv_at hl 0 rfl) ?_
                                  refine py_calli hw (va_runV (As := [.int v_130]) (rest := [.ref (G.2 u 44)]) G0 (c_X12_want l E G L_j112 f_j112 H_181.size u v_130 hG hWF Tu ⟨by omega, by omega⟩) (cwV 1 G0.2.2.2.2 g_X12_needs_X12_want_351 rfl rfl rfl (by decide +kernel) ⟨(Nat.le_of_ble_eq_true rfl), (Nat.le_of_ble_eq_true rfl)⟩) (py_preV hw (C := RX12) (T := TX12) (N := 54) rfl hr_165) rfl rfl hl.1 rfl (lv_room (Nat.le_of_ble_eq_true rfl)) dX12_needs_149 ⟨(Nat.le_of_ble_eq_true rfl), (Nat.le_of_ble_eq_true rfl)⟩) (fun r_196 L_192 f_193 H_194 locs hp_195 hw => ?_)
                                  obtain ⟨b_199, en_197, en_198, rfl, rfl⟩ := hp_195
                                  have rg_200 : vp_in r_196 8 := ti_in (by omega) (by omega)
                                  refine py_iald G0 hw ha_187 rg_200 dX12_needs_152 ?_
                                  refine lv_topi (fun x_201 ex_201 => ?_)
                                  have bx_201 := wf_free x_201
                                  refine lv_iconst (v := (-1)) G0.1 G0.2.1 dX12_needs_153 (by decide) ?_
                                  refine lv_icmp_ne (tgt := 170) G0.1 G0.2.1 dX12_needs_154 (by decide) (fun c_202 => ?_) (fun c_202 => ?_)
                                  · skip
                                    have tc_202 := ti_ne c_202
                                    exact jn_170 L_j112 f_j112 _ _ ls hWF hKP hFK hw (lv_sub hl [0, 1, 2, 3] rfl)
                                  · skip
                                    have tc_202 := ti_eq c_202
                                    refine lv_aload_n G0.1 G0.2.1 dX12_needs_157 rfl (lv_at hl 2 rfl) ?_
                                    refine py_get (C := RX12) (T := TX12) (N := 54) (k := 44) (v := .ref (G.2 u 44)) G0 hw in_X12_needs_X12 rfl hr_165 (by decide) (by decide +kernel) rfl dX12_needs_158 ?_
                                    refine lv_aload_n G0.1 G0.2.1 dX12_needs_161 rfl (lv_at hl 2 rfl) ?_
                                    refine lv_iload_n G0.1 G0.2.1 dX12_needs_162 rfl (lv_at hl 0 rfl) ?_
                                    refine py_calli hw (va_runV (As := [.int v_130]) (rest := [.ref (G.2 u 44)]) G0 (c_X12_want l E G L_j112 f_j112 H_194.size u v_130 hG hWF Tu ⟨by omega, by omega⟩) (cwV 1 G0.2.2.2.2 g_X12_needs_X12_want_351 rfl rfl rfl (by decide +kernel) ⟨(Nat.le_of_ble_eq_true rfl), (Nat.le_of_ble_eq_true rfl)⟩) (py_preV hw (C := RX12) (T := TX12) (N := 54) rfl hr_165) rfl rfl hl.1 rfl (lv_room (Nat.le_of_ble_eq_true rfl)) dX12_needs_163 ⟨(Nat.le_of_ble_eq_true rfl), (Nat.le_of_ble_eq_true rfl)⟩) (fun r_207 L_203 f_204 H_205 locs hp_206 hw => ?_)
                                    obtain ⟨b_210, en_208, en_209, rfl, rfl⟩ := hp_206
                                    refine lv_iload_n G0.1 G0.2.1 dX12_needs_166 rfl (lv_at hl 1 rfl) ?_
                                    refine lv_iconst (v := 1) G0.1 G0.2.1 dX12_needs_167 (by decide) ?_
                                    refine lv_iadd G0.1 G0.2.1 dX12_needs_168 ?_
                                    refine lv_topi (fun x_211 ex_211 => ?_)
                                    first | have tx_211 := ti_add ex_211 (by omega -splitDisjunctions) (by omega -splitDisjunctions) | skip
                                    have rg_212 : vp_in r_207 8 := ti_in (by omega) (by omega)
                                    refine py_iast G0 hw ha_187 rg_212 dX12_needs_169 (fun f_213 H_214 locs h_215 x_216 hw => ?_)
                                    have hFK := hFK.same ((x_216 _ (hWF _ (by rw [Tu]; decide)).1 (wf_ne Tu (wt12_44 hG Tu) (by decide))).2)
                                    have hKP := hKP.upd hWF x_216 (wt12_44 hG Tu) (Or.inl (by decide))
                                    have hi_217 := wf_inu (k := (r_207 : Int32).toNatClampNeg) (x := x_211) hi_188 (wf_free x_211).1 (wf_free x_211).2
                                    have hWF := wf_upd hWF h_215 x_216 (by rw [(wt12_44 hG Tu)]; exact ⟨_, rfl, hi_217⟩)
                                    have hr_165 := hr_165.ext x_216 (py_ne_arr hr_165 ha_187)
                                    exact jn_170 L_j112 f_213 _ _ ls hWF hKP hFK hw (lv_sub hl [0, 1, 2, 3] rfl)
                        exact lo_112 _ 0 L_j56 f_j56 _ _ ls rfl ⟨by omega, by omega⟩ hWF hKP hFK hw (lv_sub hl [0, 1, 2, 3] rfl)
                      · skip
                        have tc_129 := ti_nle c_129
                        refine lv_aload_n G0.1 G0.2.1 dX12_needs_74 rfl (lv_at hl 2 rfl) ?_
                        refine py_get (C := RX12) (T := TX12) (N := 54) (k := 44) (v := .ref (G.2 u 44)) G0 hw in_X12_needs_X12 rfl hr_126 (by decide) (by decide +kernel) rfl dX12_needs_75 ?_
                        refine lv_iload_n G0.1 G0.2.1 dX12_needs_78 rfl (lv_at hl 0 rfl) ?_
                        obtain ⟨g_218, ha_219, hi_220⟩ := wf_arr (n := 8) (lo := (-2147483648)) (hi := 2147483647) hWF (wt12_44 hG Tu) (by decide) (fun _ => rfl)
                        have rg_221 : vp_in v_128 8 := ti_in (by omega) (by omega)
                        refine py_iald G0 hw ha_219 rg_221 dX12_needs_79 ?_
                        refine lv_topi (fun x_222 ex_222 => ?_)
                        have bx_222 := wf_free x_222
                        refine lv_iload_n G0.1 G0.2.1 dX12_needs_80 rfl (lv_at hl 1 rfl) ?_
                        refine lv_icmp_ne (tgt := 104) G0.1 G0.2.1 dX12_needs_81 (by decide) (fun c_223 => ?_) (fun c_223 => ?_)
                        · skip
                          have tc_223 := ti_ne c_223
                          obtain ⟨x_224, ex_224⟩ : ∃ y : Int32, y = v_128 + 1 := ⟨_, rfl⟩
                          first | have tx_224 := ti_add ex_224 (by omega -splitDisjunctions) (by omega -splitDisjunctions) | skip
                          refine lv_iinc (v := x_224) (lv' := [(3, .int x_224), (2, .int v_91), (0, .ref u), (1, .int a)]) G0.1 G0.2.1 dX12_needs_104 hl (k := 0) rfl (show _ + (1 : Int32) = _ from ex_224.symm) (by decide) rfl (fun ls hl => ?_)
                          refine lv_goto (tgt := 66) G0.1 G0.2.1 dX12_needs_107 (by decide) ?_
                          exact ih_66 ((2147483647 - x_224.toInt).toNat) (by omega) x_224 _ _ ls rfl ⟨by omega, by omega⟩ hw (lv_sub hl [0, 1, 2, 3] rfl)
                        · skip
                          have tc_223 := ti_eq c_223
                          refine lv_aload_n G0.1 G0.2.1 dX12_needs_84 rfl (lv_at hl 2 rfl) ?_
                          refine lv_iload_n G0.1 G0.2.1 dX12_needs_85 rfl (lv_at hl 0 rfl) ?_
                          refine py_calli hw (va_runV (As := [.int v_128]) (rest := []) G0 (c_X12_empties l E G L_j56 f_j56 H_j66.size u v_128 hG hWF Tu ⟨by omega, by omega⟩) (cwV 1 G0.2.2.2.2 g_X12_needs_X12_empties_333 rfl rfl rfl (by decide +kernel) ⟨(Nat.le_of_ble_eq_true rfl), (Nat.le_of_ble_eq_true rfl)⟩) (py_preV hw (C := RX12) (T := TX12) (N := 54) rfl hr_126) rfl rfl hl.1 rfl (lv_room (Nat.le_of_ble_eq_true rfl)) dX12_needs_86 ⟨(Nat.le_of_ble_eq_true rfl), (Nat.le_of_ble_eq_true rfl)⟩) (fun r_229 L_225 f_226 H_227 locs hp_228 hw => ?_)
                          obtain ⟨en_230, en_231, en_232, rfl, rfl⟩ := hp_228
                          have br_229 := wf_free r_229
                          refine lv_if_gt (tgt := 102) G0.1 G0.2.1 dX12_needs_89 (by decide) (fun c_233 => ?_) (fun c_233 => ?_)
                          · skip
                            have tc_233 := ti_lt c_233
                            refine lv_iload_n G0.1 G0.2.1 dX12_needs_102 rfl (lv_at hl 1 rfl) ?_
                            exact py_iret G0 hr rfl hlk hw ⟨hWF, hKP, hFK⟩ dX12_needs_103
                          · skip
                            have tc_233 := ti_nlt c_233
                            refine lv_iload_n G0.1 G0.2.1 dX12_needs_92 rfl (lv_at hl 0 rfl) ?_
                            refine lv_aload_n G0.1 G0.2.1 dX12_needs_93 rfl (lv_at hl 2 rfl) ?_
                            refine lv_iload_n G0.1 G0.2.1 dX12_needs_94 rfl (lv_at hl 3 rfl) ?_
                            refine lv_iconst (v := 1) G0.1 G0.2.1 dX12_needs_95 (by decide) ?_
                            refine py_calli hw (va_runV (As := [.int a, .int 1]) (rest := [.int v_128]) G0 (c_X12_of l E G L_j56 f_j56 H_227.size u a 1 hG hWF Tu ⟨by omega, by omega⟩ ⟨by omega, by omega⟩) (cwV 2 G0.2.2.2.2 g_X12_needs_X12_of_287 rfl rfl rfl (by decide +kernel) ⟨(Nat.le_of_ble_eq_true rfl), (Nat.le_of_ble_eq_true rfl)⟩) (py_preV hw (C := RX12) (T := TX12) (N := 54) rfl hr_126) rfl rfl hl.1 rfl (lv_room (Nat.le_of_ble_eq_true rfl)) dX12_needs_96 ⟨(Nat.le_of_ble_eq_true rfl), (Nat.le_of_ble_eq_true rfl)⟩) (fun r_238 L_234 f_235 H_236 locs hp_237 hw => ?_)
                            obtain ⟨en_239, en_240, rfl, rfl⟩ := hp_237
                            have en_239 : r_238.toInt = nw f_j56 G u a.toInt (1 : Int) := en_239
                            have en_240 : ((1 : Int) = 0 → 0 ≤ r_238.toInt ∧ r_238.toInt ≤ 20) ∧ ((1 : Int) = 1 → -1 ≤ r_238.toInt ∧ r_238.toInt ≤ 7) := en_240
                            have br_238 := wf_free r_238
                            refine lv_icmp_ne (tgt := 104) G0.1 G0.2.1 dX12_needs_99 (by decide) (fun c_241 => ?_) (fun c_241 => ?_)
                            · skip
                              have tc_241 := ti_ne c_241
                              obtain ⟨x_242, ex_242⟩ : ∃ y : Int32, y = v_128 + 1 := ⟨_, rfl⟩
                              first | have tx_242 := ti_add ex_242 (by omega -splitDisjunctions) (by omega -splitDisjunctions) | skip
                              refine lv_iinc (v := x_242) (lv' := [(3, .int x_242), (2, .int v_91), (0, .ref u), (1, .int a)]) G0.1 G0.2.1 dX12_needs_104 hl (k := 0) rfl (show _ + (1 : Int32) = _ from ex_242.symm) (by decide) rfl (fun ls hl => ?_)
                              refine lv_goto (tgt := 66) G0.1 G0.2.1 dX12_needs_107 (by decide) ?_
                              exact ih_66 ((2147483647 - x_242.toInt).toNat) (by omega) x_242 _ _ ls rfl ⟨by omega, by omega⟩ hw (lv_sub hl [0, 1, 2, 3] rfl)
                            · skip
                              have tc_241 := ti_eq c_241
                              refine lv_iload_n G0.1 G0.2.1 dX12_needs_102 rfl (lv_at hl 1 rfl) ?_
                              exact py_iret G0 hr rfl hlk hw ⟨hWF, hKP, hFK⟩ dX12_needs_103
                  exact lo_66 _ 0 _ _ ls rfl ⟨by omega, by omega⟩ hw (lv_sub hl [0, 1, 2, 3] rfl)
            exact lo_56 _ 0 L_j20 f_j20 _ _ ls rfl ⟨by omega, by omega⟩ hWF hKP hFK hw (lv_sub hl [0, 1, 2] rfl)
          · skip
            have tc_90 := ti_nle c_90
            refine lv_aload_n G0.1 G0.2.1 dX12_needs_28 rfl (lv_at hl 1 rfl) ?_
            refine py_get (C := RX12) (T := TX12) (N := 54) (k := 44) (v := .ref (G.2 u 44)) G0 hw in_X12_needs_X12 rfl hr_89 (by decide) (by decide +kernel) rfl dX12_needs_29 ?_
            refine lv_iload_n G0.1 G0.2.1 dX12_needs_32 rfl (lv_at hl 0 rfl) ?_
            refine lv_iload_n G0.1 G0.2.1 dX12_needs_33 rfl (lv_at hl 0 rfl) ?_
            refine lv_aload_n G0.1 G0.2.1 dX12_needs_34 rfl (lv_at hl 1 rfl) ?_
            refine lv_iload_n G0.1 G0.2.1 dX12_needs_35 rfl (lv_at hl 2 rfl) ?_
            refine py_calli hw (va_runV (As := [.int a]) (rest := [.int v_54, .int v_54, .ref (G.2 u 44)]) G0 (c_X12_want l E G L_j20 f_j20 H_j20.size u a hG hWF Tu ⟨by omega, by omega⟩) (cwV 1 G0.2.2.2.2 g_X12_needs_X12_want_351 rfl rfl rfl (by decide +kernel) ⟨(Nat.le_of_ble_eq_true rfl), (Nat.le_of_ble_eq_true rfl)⟩) (py_preV hw (C := RX12) (T := TX12) (N := 54) rfl hr_89) rfl rfl hl.1 rfl (lv_room (Nat.le_of_ble_eq_true rfl)) dX12_needs_36 ⟨(Nat.le_of_ble_eq_true rfl), (Nat.le_of_ble_eq_true rfl)⟩) (fun r_247 L_243 f_244 H_245 locs hp_246 hw => ?_)
            obtain ⟨b_250, en_248, en_249, rfl, rfl⟩ := hp_246
            have jn_47 : ∀ (v_251 : Int32) (H_j47 : Heap) (locs : List Loc) (ls : Array Slot), ((-1) ≤ v_251.toInt ∧ v_251.toInt ≤ 0) → py_W E (va_A (va_pl L f) s.heap.size) s L_j20 f_j20 H_j47 locs → lv_has ls 4 [(2, .int v_54), (0, .ref u), (1, .int a)] → W p l e (headSpec w_X12_needs ({ frames := 4, cells := 0, slots := 0, locals := 91 })).room s m ([.ref u, .int a] : List Value).toArray below meth c H_j47 locs 0 0 (MQ below (py_Qi E L f s.heap.size (fun _ L1 f1 => WF E G L1 f1 ∧ KP G [66] false f f1 ∧ FK [] f f1 u)) ([.ref u, .int a] : List Value).toArray s 0 0 (va_A (va_pl L f) s.heap.size)) (F0 m 47 ls [.int v_251, .int v_54, .ref (G.2 u 44)]) := by
              intro v_251 H_j47 locs ls bv_251 hw hl
              obtain ⟨g_252, ha_253, hi_254⟩ := wf_arr (n := 8) (lo := (-2147483648)) (hi := 2147483647) hWF (wt12_44 hG Tu) (by decide) (fun _ => rfl)
              have rg_255 : vp_in v_54 8 := ti_in (by omega) (by omega)
              refine py_iast G0 hw ha_253 rg_255 dX12_needs_47 (fun f_256 H_257 locs h_258 x_259 hw => ?_)
              have hFK := hFK.same ((x_259 _ (hWF _ (by rw [Tu]; decide)).1 (wf_ne Tu (wt12_44 hG Tu) (by decide))).2)
              have hKP := hKP.upd hWF x_259 (wt12_44 hG Tu) (Or.inl (by decide))
              have hi_260 := wf_inu (k := (v_54 : Int32).toNatClampNeg) (x := v_251) hi_254 (wf_free v_251).1 (wf_free v_251).2
              have hWF := wf_upd hWF h_258 x_259 (by rw [(wt12_44 hG Tu)]; exact ⟨_, rfl, hi_260⟩)
              have hr_89 := hr_89.ext x_259 (py_ne_arr hr_89 ha_253)
              obtain ⟨x_261, ex_261⟩ : ∃ y : Int32, y = v_54 + 1 := ⟨_, rfl⟩
              first | have tx_261 := ti_add ex_261 (by omega -splitDisjunctions) (by omega -splitDisjunctions) | skip
              refine lv_iinc (v := x_261) (lv' := [(2, .int x_261), (0, .ref u), (1, .int a)]) G0.1 G0.2.1 dX12_needs_48 hl (k := 0) rfl (show _ + (1 : Int32) = _ from ex_261.symm) (by decide) rfl (fun ls hl => ?_)
              refine lv_goto (tgt := 20) G0.1 G0.2.1 dX12_needs_51 (by decide) ?_
              exact ih_20 ((2147483647 - x_261.toInt).toNat) (by omega) x_261 L_j20 f_256 _ _ ls rfl ⟨by omega, by omega⟩ hWF hKP hFK hw (lv_sub hl [0, 1, 2] rfl)
            refine lv_icmp_ne (tgt := 46) G0.1 G0.2.1 dX12_needs_39 (by decide) (fun c_262 => ?_) (fun c_262 => ?_)
            · skip
              have tc_262 := ti_ne c_262
              refine lv_iconst (v := (-1)) G0.1 G0.2.1 dX12_needs_46 (by decide) ?_
              exact jn_47 (-1) _ _ ls ⟨by omega, by omega⟩ hw (lv_sub hl [0, 1, 2] rfl)
            · skip
              have tc_262 := ti_eq c_262
              refine lv_iconst (v := 0) G0.1 G0.2.1 dX12_needs_42 (by decide) ?_
              refine lv_goto (tgt := 47) G0.1 G0.2.1 dX12_needs_43 (by decide) ?_
              exact jn_47 0 _ _ ls ⟨by omega, by omega⟩ hw (lv_sub hl [0, 1, 2] rfl)
      exact lo_20 _ 0 L f _ _ ls rfl ⟨by omega, by omega⟩ hWF hKP hFK hw (lv_sub hl [0, 1, 2] rfl)
    · skip
      have tc_53 := ti_eq c_53
      clear en_51
      refine lv_iconst (v := (-1)) G0.1 G0.2.1 dX12_needs_16 (by decide) ?_
      exact py_iret G0 hr rfl hlk hw ⟨hWF, hKP, hFK⟩ dX12_needs_17
