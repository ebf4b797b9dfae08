theorem dX0_add_0 : decode cX0_add 0 = .ok (.aload_n 0, 1) := by decide +kernel
theorem dX0_add_1 : decode cX0_add 1 = .ok (.getfield 23, 3) := by decide +kernel
theorem dX0_add_4 : decode cX0_add 4 = .ok (.iload_n 2, 1) := by decide +kernel
theorem dX0_add_5 : decode cX0_add 5 = .ok (.invokestatic 26, 3) := by decide +kernel
theorem dX0_add_8 : decode cX0_add 8 = .ok (.imul, 1) := by decide +kernel
theorem dX0_add_9 : decode cX0_add 9 = .ok (.istore_n 3, 1) := by decide +kernel
theorem dX0_add_10 : decode cX0_add 10 = .ok (.aload_n 0, 1) := by decide +kernel
theorem dX0_add_11 : decode cX0_add 11 = .ok (.getfield 19, 3) := by decide +kernel
theorem dX0_add_14 : decode cX0_add 14 = .ok (.bipush 40, 2) := by decide +kernel
theorem dX0_add_16 : decode cX0_add 16 = .ok (.if_icmp .ge 43, 3) := by decide +kernel
theorem dX0_add_19 : decode cX0_add 19 = .ok (.aload_n 0, 1) := by decide +kernel
theorem dX0_add_20 : decode cX0_add 20 = .ok (.getfield 9, 3) := by decide +kernel
theorem dX0_add_23 : decode cX0_add 23 = .ok (.aload_n 0, 1) := by decide +kernel
theorem dX0_add_24 : decode cX0_add 24 = .ok (.getfield 19, 3) := by decide +kernel
theorem dX0_add_27 : decode cX0_add 27 = .ok (.iload_n 1, 1) := by decide +kernel
theorem dX0_add_28 : decode cX0_add 28 = .ok (.iastore, 1) := by decide +kernel
theorem dX0_add_29 : decode cX0_add 29 = .ok (.aload_n 0, 1) := by decide +kernel
theorem dX0_add_30 : decode cX0_add 30 = .ok (.getfield 13, 3) := by decide +kernel
theorem dX0_add_33 : decode cX0_add 33 = .ok (.aload_n 0, 1) := by decide +kernel
theorem dX0_add_34 : decode cX0_add 34 = .ok (.getfield 19, 3) := by decide +kernel
theorem dX0_add_37 : decode cX0_add 37 = .ok (.iload_n 2, 1) := by decide +kernel
theorem dX0_add_38 : decode cX0_add 38 = .ok (.iastore, 1) := by decide +kernel
theorem dX0_add_39 : decode cX0_add 39 = .ok (.aload_n 0, 1) := by decide +kernel
theorem dX0_add_40 : decode cX0_add 40 = .ok (.getfield 16, 3) := by decide +kernel
theorem dX0_add_43 : decode cX0_add 43 = .ok (.aload_n 0, 1) := by decide +kernel
theorem dX0_add_44 : decode cX0_add 44 = .ok (.getfield 19, 3) := by decide +kernel
theorem dX0_add_47 : decode cX0_add 47 = .ok (.iload_n 3, 1) := by decide +kernel
theorem dX0_add_48 : decode cX0_add 48 = .ok (.iastore, 1) := by decide +kernel
theorem dX0_add_49 : decode cX0_add 49 = .ok (.aload_n 0, 1) := by decide +kernel
theorem dX0_add_50 : decode cX0_add 50 = .ok (.dup, 1) := by decide +kernel
theorem dX0_add_51 : decode cX0_add 51 = .ok (.getfield 19, 3) := by decide +kernel
theorem dX0_add_54 : decode cX0_add 54 = .ok (.iconst 1, 1) := by decide +kernel
theorem dX0_add_55 : decode cX0_add 55 = .ok (.iadd, 1) := by decide +kernel
theorem dX0_add_56 : decode cX0_add 56 = .ok (.putfield 19, 3) := by decide +kernel
theorem dX0_add_59 : decode cX0_add 59 = .ok (.iload_n 3, 1) := by decide +kernel
theorem dX0_add_60 : decode cX0_add 60 = .ok (.ireturn, 1) := by decide +kernel
theorem dX1_climbFrom_0 : decode cX1_climbFrom 0 = .ok (.aload_n 0, 1) := by decide +kernel
theorem dX1_climbFrom_1 : decode cX1_climbFrom 1 = .ok (.iload_n 1, 1) := by decide +kernel
theorem dX1_climbFrom_2 : decode cX1_climbFrom 2 = .ok (.iload_n 2, 1) := by decide +kernel
theorem dX1_climbFrom_3 : decode cX1_climbFrom 3 = .ok (.invokevirtual 39, 3) := by decide +kernel
theorem dX1_climbFrom_6 : decode cX1_climbFrom 6 = .ok (.istore_n 3, 1) := by decide +kernel
theorem dX1_climbFrom_7 : decode cX1_climbFrom 7 = .ok (.iconst 0, 1) := by decide +kernel
theorem dX1_climbFrom_8 : decode cX1_climbFrom 8 = .ok (.istore 4, 2) := by decide +kernel
theorem dX1_climbFrom_10 : decode cX1_climbFrom 10 = .ok (.iload_n 1, 1) := by decide +kernel
theorem dX1_climbFrom_11 : decode cX1_climbFrom 11 = .ok (.iconst 1, 1) := by decide +kernel
theorem dX1_climbFrom_12 : decode cX1_climbFrom 12 = .ok (.iadd, 1) := by decide +kernel
theorem dX1_climbFrom_13 : decode cX1_climbFrom 13 = .ok (.istore 5, 2) := by decide +kernel
theorem dX1_climbFrom_15 : decode cX1_climbFrom 15 = .ok (.iload 5, 2) := by decide +kernel
theorem dX1_climbFrom_17 : decode cX1_climbFrom 17 = .ok (.aload_n 0, 1) := by decide +kernel
theorem dX1_climbFrom_18 : decode cX1_climbFrom 18 = .ok (.getfield 20, 3) := by decide +kernel
theorem dX1_climbFrom_21 : decode cX1_climbFrom 21 = .ok (.if_icmp .ge 45, 3) := by decide +kernel
theorem dX1_climbFrom_24 : decode cX1_climbFrom 24 = .ok (.iload_n 3, 1) := by decide +kernel
theorem dX1_climbFrom_25 : decode cX1_climbFrom 25 = .ok (.iconst (-1), 1) := by decide +kernel
theorem dX1_climbFrom_26 : decode cX1_climbFrom 26 = .ok (.if_icmp .eq 40, 3) := by decide +kernel
theorem dX1_climbFrom_29 : decode cX1_climbFrom 29 = .ok (.aload_n 0, 1) := by decide +kernel
theorem dX1_climbFrom_30 : decode cX1_climbFrom 30 = .ok (.iload 5, 2) := by decide +kernel
theorem dX1_climbFrom_32 : decode cX1_climbFrom 32 = .ok (.iload_n 2, 1) := by decide +kernel
theorem dX1_climbFrom_33 : decode cX1_climbFrom 33 = .ok (.invokevirtual 39, 3) := by decide +kernel
theorem dX1_climbFrom_36 : decode cX1_climbFrom 36 = .ok (.istore 6, 2) := by decide +kernel
theorem dX1_climbFrom_38 : decode cX1_climbFrom 38 = .ok (.iload 6, 2) := by decide +kernel
theorem dX1_climbFrom_40 : decode cX1_climbFrom 40 = .ok (.iconst (-1), 1) := by decide +kernel
theorem dX1_climbFrom_41 : decode cX1_climbFrom 41 = .ok (.if_icmp .ne 8, 3) := by decide +kernel
theorem dX1_climbFrom_44 : decode cX1_climbFrom 44 = .ok (.iload 4, 2) := by decide +kernel
theorem dX1_climbFrom_46 : decode cX1_climbFrom 46 = .ok (.goto 12, 3) := by decide +kernel
theorem dX1_climbFrom_49 : decode cX1_climbFrom 49 = .ok (.iload 4, 2) := by decide +kernel
theorem dX1_climbFrom_51 : decode cX1_climbFrom 51 = .ok (.iload 6, 2) := by decide +kernel
theorem dX1_climbFrom_53 : decode cX1_climbFrom 53 = .ok (.iload_n 3, 1) := by decide +kernel
theorem dX1_climbFrom_54 : decode cX1_climbFrom 54 = .ok (.isub, 1) := by decide +kernel
theorem dX1_climbFrom_55 : decode cX1_climbFrom 55 = .ok (.invokestatic 42, 3) := by decide +kernel
theorem dX1_climbFrom_58 : decode cX1_climbFrom 58 = .ok (.istore 4, 2) := by decide +kernel
theorem dX1_climbFrom_60 : decode cX1_climbFrom 60 = .ok (.iinc 5 1, 3) := by decide +kernel
theorem dX1_climbFrom_63 : decode cX1_climbFrom 63 = .ok (.goto (-48), 3) := by decide +kernel
theorem dX1_climbFrom_66 : decode cX1_climbFrom 66 = .ok (.iload 4, 2) := by decide +kernel
theorem dX1_climbFrom_68 : decode cX1_climbFrom 68 = .ok (.ireturn, 1) := by decide +kernel
theorem dX1_headsIn_0 : decode cX1_headsIn 0 = .ok (.aload_n 0, 1) := by decide +kernel
theorem dX1_headsIn_1 : decode cX1_headsIn 1 = .ok (.getfield 17, 3) := by decide +kernel
theorem dX1_headsIn_4 : decode cX1_headsIn 4 = .ok (.iload_n 1, 1) := by decide +kernel
theorem dX1_headsIn_5 : decode cX1_headsIn 5 = .ok (.bipush 10, 2) := by decide +kernel
theorem dX1_headsIn_7 : decode cX1_headsIn 7 = .ok (.imul, 1) := by decide +kernel
theorem dX1_headsIn_8 : decode cX1_headsIn 8 = .ok (.iload_n 2, 1) := by decide +kernel
theorem dX1_headsIn_9 : decode cX1_headsIn 9 = .ok (.iadd, 1) := by decide +kernel
theorem dX1_headsIn_10 : decode cX1_headsIn 10 = .ok (.iaload, 1) := by decide +kernel
theorem dX1_headsIn_11 : decode cX1_headsIn 11 = .ok (.ireturn, 1) := by decide +kernel
theorem dX1_headsOfYear_0 : decode cX1_headsOfYear 0 = .ok (.iconst 0, 1) := by decide +kernel
theorem dX1_headsOfYear_1 : decode cX1_headsOfYear 1 = .ok (.istore_n 2, 1) := by decide +kernel
theorem dX1_headsOfYear_2 : decode cX1_headsOfYear 2 = .ok (.iconst 0, 1) := by decide +kernel
theorem dX1_headsOfYear_3 : decode cX1_headsOfYear 3 = .ok (.istore_n 3, 1) := by decide +kernel
theorem dX1_headsOfYear_4 : decode cX1_headsOfYear 4 = .ok (.iload_n 3, 1) := by decide +kernel
theorem dX1_headsOfYear_5 : decode cX1_headsOfYear 5 = .ok (.bipush 10, 2) := by decide +kernel
theorem dX1_headsOfYear_7 : decode cX1_headsOfYear 7 = .ok (.if_icmp .ge 18, 3) := by decide +kernel
theorem dX1_headsOfYear_10 : decode cX1_headsOfYear 10 = .ok (.iload_n 2, 1) := by decide +kernel
theorem dX1_headsOfYear_11 : decode cX1_headsOfYear 11 = .ok (.aload_n 0, 1) := by decide +kernel
theorem dX1_headsOfYear_12 : decode cX1_headsOfYear 12 = .ok (.iload_n 1, 1) := by decide +kernel
theorem dX1_headsOfYear_13 : decode cX1_headsOfYear 13 = .ok (.iload_n 3, 1) := by decide +kernel
theorem dX1_headsOfYear_14 : decode cX1_headsOfYear 14 = .ok (.invokevirtual 35, 3) := by decide +kernel
theorem dX1_headsOfYear_17 : decode cX1_headsOfYear 17 = .ok (.iadd, 1) := by decide +kernel
theorem dX1_headsOfYear_18 : decode cX1_headsOfYear 18 = .ok (.istore_n 2, 1) := by decide +kernel
theorem dX1_headsOfYear_19 : decode cX1_headsOfYear 19 = .ok (.iinc 3 1, 3) := by decide +kernel
theorem dX1_headsOfYear_22 : decode cX1_headsOfYear 22 = .ok (.goto (-18), 3) := by decide +kernel
theorem dX1_headsOfYear_25 : decode cX1_headsOfYear 25 = .ok (.iload_n 2, 1) := by decide +kernel
theorem dX1_headsOfYear_26 : decode cX1_headsOfYear 26 = .ok (.ireturn, 1) := by decide +kernel
theorem dX1_levelIn_0 : decode cX1_levelIn 0 = .ok (.aload_n 0, 1) := by decide +kernel
theorem dX1_levelIn_1 : decode cX1_levelIn 1 = .ok (.getfield 13, 3) := by decide +kernel
theorem dX1_levelIn_4 : decode cX1_levelIn 4 = .ok (.iload_n 1, 1) := by decide +kernel
theorem dX1_levelIn_5 : decode cX1_levelIn 5 = .ok (.bipush 10, 2) := by decide +kernel
theorem dX1_levelIn_7 : decode cX1_levelIn 7 = .ok (.imul, 1) := by decide +kernel
theorem dX1_levelIn_8 : decode cX1_levelIn 8 = .ok (.iload_n 2, 1) := by decide +kernel
theorem dX1_levelIn_9 : decode cX1_levelIn 9 = .ok (.iadd, 1) := by decide +kernel
theorem dX1_levelIn_10 : decode cX1_levelIn 10 = .ok (.iaload, 1) := by decide +kernel
theorem dX1_levelIn_11 : decode cX1_levelIn 11 = .ok (.ireturn, 1) := by decide +kernel
def w_X1_levelIn : List Cond := .code yX1_levelIn cX1_levelIn 3 (some .int) :: ([Cond.fieldLink RX1 13 "HeadYear$Diary" "level" "[I"] ++ (u_ws RX1 TX1 3 ++ ([])))
theorem in_X1_levelIn_X1 : ∀ w ∈ u_ws RX1 TX1 3, w ∈ w_X1_levelIn := fun _ h => List.mem_cons_of_mem _ (List.mem_append_right _ (List.mem_append_left _ h))
set_option maxHeartbeats 4000000 in
set_option maxRecDepth 100000 in
theorem c_X1_levelIn (l : Launch) (E : py_E) (G : wf_G) (L : List Nat) (f : py_F) (sz : Nat) (h : Nat) (a : Int32) (b : Int32) (hG : GT G) (hWF : WF E G L f) (Th : G.1 h = 2) (Ba : (0 ≤ a.toInt ∧ a.toInt ≤ 59)) (Bb : (0 ≤ b.toInt ∧ b.toInt ≤ 9)) : Met l yX1_levelIn w_X1_levelIn ({ frames := 0, cells := 0, slots := 0, locals := 0 }) (py_Pc E [.ref h, .int a, .int b] L f sz) (py_Qi E L f sz (fun _ L1 f1 => L = L1 ∧ f = f1)) 0 0 (va_A (va_pl L f) sz) := by
  refine Met.ofW (cc := cX1_levelIn) (maxL := 3) (ret := (some .int)) (by decide) rfl ?_
  intro p e s m args below meth c s₁ B hml hv
  obtain ⟨rfl, rfl, hw⟩ := py_start hv
  have G0 : CallFix p m c cX1_levelIn 3 s _ w_X1_levelIn RX1 := ⟨B.exec, B.bytes, hml, findClass_of_methodNamed B.named, atoms_spec (ws := w_X1_levelIn) B.pre⟩
  have hr := B.returns
  have hlk := B.notSynchronized
  have kcm1 : (-1 : Int32).toInt = -1 := rfl
  have kc0 : (0 : Int32).toInt = 0 := rfl
  have kc1 : (1 : Int32).toInt = 1 := rfl
  have kc10 : (10 : Int32).toInt = 10 := rfl
  have hl := lv_entry ([.ref h, .int a, .int b]) (n := 3) (Nat.le_of_ble_eq_true rfl)
  rw [lg_entry_eq]
  generalize (lg_sl ([.ref h, .int a, .int b]) ++ List.replicate (3 - (lg_sl ([.ref h, .int a, .int b])).length) Slot.unset).toArray = ls at hl ⊢
  have hl : lv_has ls 3 [(0, .ref h), (1, .int a), (2, .int b)] := hl
  have hRP : RP E G f f := RP.refl
  refine lv_aload_n G0.1 G0.2.1 dX1_levelIn_0 rfl (lv_at hl 0 rfl) ?_
  obtain ⟨t_1, t_2⟩ := wt_1 hG Th
  obtain ⟨v_3, hr_5, b_4⟩ := wg_1 hWF Th
  refine py_get (C := RX1) (T := TX1) (N := 3) (k := 0) (v := .ref (G.2 h 0)) G0 hw in_X1_levelIn_X1 rfl hr_5 (by decide) (by decide +kernel) rfl dX1_levelIn_1 ?_
  refine lv_iload_n G0.1 G0.2.1 dX1_levelIn_4 rfl (lv_at hl 1 rfl) ?_
  refine lv_bipush (v := 10) G0.1 G0.2.1 dX1_levelIn_5 (by decide) ?_
  refine lv_imul G0.1 G0.2.1 dX1_levelIn_7 ?_
  refine lv_topi (fun x_6 ex_6 => ?_)
  first | have tx_6 := ti_mulc ex_6 kc10 (by omega) (by omega) | skip
  refine lv_iload_n G0.1 G0.2.1 dX1_levelIn_8 rfl (lv_at hl 2 rfl) ?_
  refine lv_iadd G0.1 G0.2.1 dX1_levelIn_9 ?_
  refine lv_topi (fun x_7 ex_7 => ?_)
  first | have tx_7 := ti_add ex_7 (by omega) (by omega) | skip
  obtain ⟨g_8, ha_9, hi_10⟩ := wf_arr (n := 600) (lo := (-2147483648)) (hi := 2147483647) hWF t_1 (by decide) (fun _ => rfl)
  have rg_11 : vp_in x_7 600 := ti_in (by omega) (by omega)
  refine py_iald G0 hw ha_9 rg_11 dX1_levelIn_10 ?_
  refine lv_topi (fun x_12 ex_12 => ?_)
  have bx_12 := wf_free x_12
  exact py_iret G0 hr rfl hlk hw ⟨rfl, rfl⟩ dX1_levelIn_11

def w_X1_headsIn : List Cond := .code yX1_headsIn cX1_headsIn 3 (some .int) :: ([Cond.fieldLink RX1 17 "HeadYear$Diary" "heads" "[I"] ++ (u_ws RX1 TX1 3 ++ ([])))
theorem in_X1_headsIn_X1 : ∀ w ∈ u_ws RX1 TX1 3, w ∈ w_X1_headsIn := fun _ h => List.mem_cons_of_mem _ (List.mem_append_right _ (List.mem_append_left _ h))
set_option maxHeartbeats 4000000 in
set_option maxRecDepth 100000 in
theorem c_X1_headsIn (l : Launch) (E : py_E) (G : wf_G) (L : List Nat) (f : py_F) (sz : Nat) (h : Nat) (a : Int32) (b : Int32) (hG : GT G) (hWF : WF E G L f) (Th : G.1 h = 2) (Ba : (0 ≤ a.toInt ∧ a.toInt ≤ 59)) (Bb : (0 ≤ b.toInt ∧ b.toInt ≤ 9)) : Met l yX1_headsIn w_X1_headsIn ({ frames := 0, cells := 0, slots := 0, locals := 0 }) (py_Pc E [.ref h, .int a, .int b] L f sz) (py_Qi E L f sz (fun _ L1 f1 => L = L1 ∧ f = f1)) 0 0 (va_A (va_pl L f) sz) := by
  refine Met.ofW (cc := cX1_headsIn) (maxL := 3) (ret := (some .int)) (by decide) rfl ?_
  intro p e s m args below meth c s₁ B hml hv
  obtain ⟨rfl, rfl, hw⟩ := py_start hv
  have G0 : CallFix p m c cX1_headsIn 3 s _ w_X1_headsIn RX1 := ⟨B.exec, B.bytes, hml, findClass_of_methodNamed B.named, atoms_spec (ws := w_X1_headsIn) B.pre⟩
  have hr := B.returns
  have hlk := B.notSynchronized
  have kcm1 : (-1 : Int32).toInt = -1 := rfl
  have kc0 : (0 : Int32).toInt = 0 := rfl
  have kc1 : (1 : Int32).toInt = 1 := rfl
  have kc10 : (10 : Int32).toInt = 10 := rfl
  have hl := lv_entry ([.ref h, .int a, .int b]) (n := 3) (Nat.le_of_ble_eq_true rfl)
  rw [lg_entry_eq]
  generalize (lg_sl ([.ref h, .int a, .int b]) ++ List.replicate (3 - (lg_sl ([.ref h, .int a, .int b])).length) Slot.unset).toArray = ls at hl ⊢
  have hl : lv_has ls 3 [(0, .ref h), (1, .int a), (2, .int b)] := hl
  have hRP : RP E G f f := RP.refl
  refine lv_aload_n G0.1 G0.2.1 dX1_headsIn_0 rfl (lv_at hl 0 rfl) ?_
  obtain ⟨t_1, t_2⟩ := wt_1 hG Th
  obtain ⟨v_3, hr_5, b_4⟩ := wg_1 hWF Th
  refine py_get (C := RX1) (T := TX1) (N := 3) (k := 1) (v := .ref (G.2 h 1)) G0 hw in_X1_headsIn_X1 rfl hr_5 (by decide) (by decide +kernel) rfl dX1_headsIn_1 ?_
  refine lv_iload_n G0.1 G0.2.1 dX1_headsIn_4 rfl (lv_at hl 1 rfl) ?_
  refine lv_bipush (v := 10) G0.1 G0.2.1 dX1_headsIn_5 (by decide) ?_
  refine lv_imul G0.1 G0.2.1 dX1_headsIn_7 ?_
  refine lv_topi (fun x_6 ex_6 => ?_)
  first | have tx_6 := ti_mulc ex_6 kc10 (by omega) (by omega) | skip
  refine lv_iload_n G0.1 G0.2.1 dX1_headsIn_8 rfl (lv_at hl 2 rfl) ?_
  refine lv_iadd G0.1 G0.2.1 dX1_headsIn_9 ?_
  refine lv_topi (fun x_7 ex_7 => ?_)
  first | have tx_7 := ti_add ex_7 (by omega) (by omega) | skip
  obtain ⟨g_8, ha_9, hi_10⟩ := wf_arr (n := 600) (lo := (-2147483648)) (hi := 2147483647) hWF t_2 (by decide) (fun _ => rfl)
  have rg_11 : vp_in x_7 600 := ti_in (by omega) (by omega)
  refine py_iald G0 hw ha_9 rg_11 dX1_headsIn_10 ?_
  refine lv_topi (fun x_12 ex_12 => ?_)
  have bx_12 := wf_free x_12
  exact py_iret G0 hr rfl hlk hw ⟨rfl, rfl⟩ dX1_headsIn_11

def w_X1_headsOfYear : List Cond := .code yX1_headsOfYear cX1_headsOfYear 4 (some .int) :: ([Cond.methodLink RX1 35 yX1_headsIn, Cond.instanceMethod yX1_headsIn, Cond.selects RX1 yX1_headsIn yX1_headsIn, Cond.initialized RX1] ++ (w_X1_headsIn ++ ([])))
theorem gg_X1_headsOfYear_X1_headsIn : GoodIn w_X1_headsOfYear w_X1_headsIn := goodIn_sub (fun _ h => List.mem_cons_of_mem _ (List.mem_append_right _ (List.mem_append_left _ h))) (by decide +kernel)
theorem g_X1_headsOfYear_X1_headsIn_35 : GoodIn w_X1_headsOfYear (wsV RX1 35 RX1 yX1_headsIn w_X1_headsIn) := goodIn_app (goodIn_of _ (by decide +kernel)) gg_X1_headsOfYear_X1_headsIn
set_option maxHeartbeats 4000000 in
set_option maxRecDepth 100000 in
theorem c_X1_headsOfYear (l : Launch) (E : py_E) (G : wf_G) (L : List Nat) (f : py_F) (sz : Nat) (h : Nat) (a : Int32) (hG : GT G) (hWF : WF E G L f) (Th : G.1 h = 2) (Ba : (0 ≤ a.toInt ∧ a.toInt ≤ 59)) : Met l yX1_headsOfYear w_X1_headsOfYear ({ frames := 1, cells := 0, slots := 0, locals := 22 }) (py_Pc E [.ref h, .int a] L f sz) (py_Qi E L f sz (fun _ L1 f1 => L = L1 ∧ f = f1)) 0 0 (va_A (va_pl L f) sz) := by
  refine Met.ofW (cc := cX1_headsOfYear) (maxL := 4) (ret := (some .int)) (by decide) rfl ?_
  intro p e s m args below meth c s₁ B hml hv
  obtain ⟨rfl, rfl, hw⟩ := py_start hv
  have G0 : CallFix p m c cX1_headsOfYear 4 s _ w_X1_headsOfYear RX1 := ⟨B.exec, B.bytes, hml, findClass_of_methodNamed B.named, atoms_spec (ws := w_X1_headsOfYear) B.pre⟩
  have hr := B.returns
  have hlk := B.notSynchronized
  have kcm1 : (-1 : Int32).toInt = -1 := rfl
  have kc0 : (0 : Int32).toInt = 0 := rfl
  have kc1 : (1 : Int32).toInt = 1 := rfl
  have kc10 : (10 : Int32).toInt = 10 := rfl
  have hl := lv_entry ([.ref h, .int a]) (n := 4) (Nat.le_of_ble_eq_true rfl)
  rw [lg_entry_eq]
  generalize (lg_sl ([.ref h, .int a]) ++ List.replicate (4 - (lg_sl ([.ref h, .int a])).length) Slot.unset).toArray = ls at hl ⊢
  have hl : lv_has ls 4 [(0, .ref h), (1, .int a)] := hl
  have hRP : RP E G f f := RP.refl
  refine lv_iconst (v := 0) G0.1 G0.2.1 dX1_headsOfYear_0 (by decide) ?_
  refine lv_istore_n (lv' := [(2, .int 0), (0, .ref h), (1, .int a)]) G0.1 G0.2.1 dX1_headsOfYear_1 rfl hl (by decide) rfl (fun ls hl => ?_)
  refine lv_iconst (v := 0) G0.1 G0.2.1 dX1_headsOfYear_2 (by decide) ?_
  refine lv_istore_n (lv' := [(3, .int 0), (2, .int 0), (0, .ref h), (1, .int a)]) G0.1 G0.2.1 dX1_headsOfYear_3 rfl hl (by decide) rfl (fun ls hl => ?_)
  have lo_4 : ∀ n_4 : Nat, ∀ (v_1 : Int32) (v_2 : Int32) (H_j4 : Heap) (locs : List Loc) (ls : Array Slot), (2147483647 - v_1.toInt).toNat = n_4 → (0 ≤ v_1.toInt ∧ v_1.toInt ≤ 2147483647) → py_W E (va_A (va_pl L f) s.heap.size) s L f H_j4 locs → lv_has ls 4 [(3, .int v_1), (2, .int v_2), (0, .ref h), (1, .int a)] → W p l e (headSpec w_X1_headsOfYear ({ frames := 1, cells := 0, slots := 0, locals := 22 })).room s m ([.ref h, .int a] : List Value).toArray below meth c H_j4 locs 0 0 (MQ below (py_Qi E L f s.heap.size (fun _ L1 f1 => L = L1 ∧ f = f1)) ([.ref h, .int a] : List Value).toArray s 0 0 (va_A (va_pl L f) s.heap.size)) (F0 m 4 ls []) := by
    intro n_4
    induction n_4 using Nat.strongRecOn with
    | _ n_4 ih_4 =>
      intro v_1 v_2 H_j4 locs ls hn_4 bv_1 hw hl
      refine lv_iload_n G0.1 G0.2.1 dX1_headsOfYear_4 rfl (lv_at hl 0 rfl) ?_
      refine lv_bipush (v := 10) G0.1 G0.2.1 dX1_headsOfYear_5 (by decide) ?_
      refine lv_icmp_ge (tgt := 25) G0.1 G0.2.1 dX1_headsOfYear_7 (by decide) (fun c_3 => ?_) (fun c_3 => ?_)
      · skip
        have tc_3 := ti_le c_3
        refine lv_iload_n G0.1 G0.2.1 dX1_headsOfYear_25 rfl (lv_at hl 1 rfl) ?_
        exact py_iret G0 hr rfl hlk hw ⟨rfl, rfl⟩ dX1_headsOfYear_26
      · skip
        have tc_3 := ti_nle c_3
        refine lv_iload_n G0.1 G0.2.1 dX1_headsOfYear_10 rfl (lv_at hl 1 rfl) ?_
        refine lv_aload_n G0.1 G0.2.1 dX1_headsOfYear_11 rfl (lv_at hl 2 rfl) ?_
        refine lv_iload_n G0.1 G0.2.1 dX1_headsOfYear_12 rfl (lv_at hl 3 rfl) ?_
        refine lv_iload_n G0.1 G0.2.1 dX1_headsOfYear_13 rfl (lv_at hl 0 rfl) ?_
        obtain ⟨t_4, t_5⟩ := wt_1 hG Th
        obtain ⟨v_6, hr_8, b_7⟩ := wg_1 hWF Th
        refine py_calli hw (va_runV (As := [.int a, .int v_1]) (rest := [.int v_2]) G0 (c_X1_headsIn l E G L f H_j4.size h a v_1 hG hWF Th ⟨by omega, by omega⟩ ⟨by omega, by omega⟩) (cwV 2 G0.2.2.2.2 g_X1_headsOfYear_X1_headsIn_35 rfl rfl rfl (by decide +kernel) ⟨(Nat.le_of_ble_eq_true rfl), (Nat.le_of_ble_eq_true rfl)⟩) (py_preV hw (C := RX1) (T := TX1) (N := 3) rfl hr_8) rfl rfl hl.1 rfl (lv_room (Nat.le_of_ble_eq_true rfl)) dX1_headsOfYear_14 ⟨(Nat.le_of_ble_eq_true rfl), (Nat.le_of_ble_eq_true rfl)⟩) (fun r_13 L_9 f_10 H_11 locs hp_12 hw => ?_)
        obtain ⟨rfl, rfl⟩ := hp_12
        have br_13 := wf_free r_13
        refine lv_iadd G0.1 G0.2.1 dX1_headsOfYear_17 ?_
        refine lv_topi (fun x_14 ex_14 => ?_)
        first | have tx_14 := ti_add ex_14 (by omega) (by omega) | skip
        refine lv_istore_n (lv' := [(2, .int x_14), (3, .int v_1), (0, .ref h), (1, .int a)]) G0.1 G0.2.1 dX1_headsOfYear_18 rfl hl (by decide) rfl (fun ls hl => ?_)
        obtain ⟨x_15, ex_15⟩ : ∃ y : Int32, y = v_1 + 1 := ⟨_, rfl⟩
        first | have tx_15 := ti_add ex_15 (by omega) (by omega) | skip
        refine lv_iinc (v := x_15) (lv' := [(3, .int x_15), (2, .int x_14), (0, .ref h), (1, .int a)]) G0.1 G0.2.1 dX1_headsOfYear_19 hl (k := 1) rfl (show _ + (1 : Int32) = _ from ex_15.symm) (by decide) rfl (fun ls hl => ?_)
        refine lv_goto (tgt := 4) G0.1 G0.2.1 dX1_headsOfYear_22 (by decide) ?_
        exact ih_4 ((2147483647 - x_15.toInt).toNat) (by omega) x_15 x_14 _ _ ls rfl ⟨by omega, by omega⟩ hw (lv_sub hl [0, 1, 2, 3] rfl)
  exact lo_4 _ 0 0 _ _ ls rfl ⟨by omega, by omega⟩ hw (lv_sub hl [0, 1, 2, 3] rfl)

def w_X1_climbFrom : List Cond := .code yX1_climbFrom cX1_climbFrom 7 (some .int) :: ([Cond.methodLink RX1 39 yX1_levelIn, Cond.instanceMethod yX1_levelIn, Cond.selects RX1 yX1_levelIn yX1_levelIn, Cond.initialized RX1, Cond.fieldLink RX1 20 "HeadYear$Diary" "years" "I", Cond.methodLink RX1 42 Lib.Math.max.name, Cond.static Lib.Math.max.name, Cond.initialized "java/lang/Math", Cond.code Lib.Math.max.name Lib.Math.max.code 2 (some .int)] ++ (u_ws RX1 TX1 3 ++ (w_X1_levelIn ++ ([]))))
theorem in_X1_climbFrom_X1 : ∀ w ∈ u_ws RX1 TX1 3, w ∈ w_X1_climbFrom := fun _ h => List.mem_cons_of_mem _ (List.mem_append_right _ (List.mem_append_left _ h))
theorem gg_X1_climbFrom_X1_levelIn : GoodIn w_X1_climbFrom w_X1_levelIn := goodIn_sub (fun _ h => List.mem_cons_of_mem _ (List.mem_append_right _ (List.mem_append_right _ (List.mem_append_left _ h)))) (by decide +kernel)
theorem g_X1_climbFrom_X1_levelIn_39 : GoodIn w_X1_climbFrom (wsV RX1 39 RX1 yX1_levelIn w_X1_levelIn) := goodIn_app (goodIn_of _ (by decide +kernel)) gg_X1_climbFrom_X1_levelIn
set_option maxHeartbeats 4000000 in
set_option maxRecDepth 100000 in
theorem c_X1_climbFrom (l : Launch) (E : py_E) (G : wf_G) (L : List Nat) (f : py_F) (sz : Nat) (h : Nat) (a : Int32) (b : Int32) (hG : GT G) (hWF : WF E G L f) (Th : G.1 h = 2) (Ba : (0 ≤ a.toInt ∧ a.toInt ≤ 59)) (Bb : (0 ≤ b.toInt ∧ b.toInt ≤ 9)) : Met l yX1_climbFrom w_X1_climbFrom ({ frames := 1, cells := 0, slots := 0, locals := 24 }) (py_Pc E [.ref h, .int a, .int b] L f sz) (py_Qi E L f sz (fun _ L1 f1 => L = L1 ∧ f = f1)) 0 0 (va_A (va_pl L f) sz) := by
  refine Met.ofW (cc := cX1_climbFrom) (maxL := 7) (ret := (some .int)) (by decide) rfl ?_
  intro p e s m args below meth c s₁ B hml hv
  obtain ⟨rfl, rfl, hw⟩ := py_start hv
  have G0 : CallFix p m c cX1_climbFrom 7 s _ w_X1_climbFrom RX1 := ⟨B.exec, B.bytes, hml, findClass_of_methodNamed B.named, atoms_spec (ws := w_X1_climbFrom) B.pre⟩
  have hr := B.returns
  have hlk := B.notSynchronized
  have kcm1 : (-1 : Int32).toInt = -1 := rfl
  have kc0 : (0 : Int32).toInt = 0 := rfl
  have kc1 : (1 : Int32).toInt = 1 := rfl
  have hl := lv_entry ([.ref h, .int a, .int b]) (n := 7) (Nat.le_of_ble_eq_true rfl)
  rw [lg_entry_eq]
  generalize (lg_sl ([.ref h, .int a, .int b]) ++ List.replicate (7 - (lg_sl ([.ref h, .int a, .int b])).length) Slot.unset).toArray = ls at hl ⊢
  have hl : lv_has ls 7 [(0, .ref h), (1, .int a), (2, .int b)] := hl
  have hRP : RP E G f f := RP.refl
  refine lv_aload_n G0.1 G0.2.1 dX1_climbFrom_0 rfl (lv_at hl 0 rfl) ?_
  refine lv_iload_n G0.1 G0.2.1 dX1_climbFrom_1 rfl (lv_at hl 1 rfl) ?_
  refine lv_iload_n G0.1 G0.2.1 dX1_climbFrom_2 rfl (lv_at hl 2 rfl) ?_
  obtain ⟨t_1, t_2⟩ := wt_1 hG Th
  obtain ⟨v_3, hr_5, b_4⟩ := wg_1 hWF Th
  refine py_calli hw (va_runV (As := [.int a, .int b]) (rest := []) G0 (c_X1_levelIn l E G L f s.heap.size h a b hG hWF Th ⟨by omega, by omega⟩ ⟨by omega, by omega⟩) (cwV 2 G0.2.2.2.2 g_X1_climbFrom_X1_levelIn_39 rfl rfl rfl (by decide +kernel) ⟨(Nat.le_of_ble_eq_true rfl), (Nat.le_of_ble_eq_true rfl)⟩) (py_preV hw (C := RX1) (T := TX1) (N := 3) rfl hr_5) rfl rfl hl.1 rfl (lv_room (Nat.le_of_ble_eq_true rfl)) dX1_climbFrom_3 ⟨(Nat.le_of_ble_eq_true rfl), (Nat.le_of_ble_eq_true rfl)⟩) (fun r_10 L_6 f_7 H_8 locs hp_9 hw => ?_)
  obtain ⟨rfl, rfl⟩ := hp_9
  have br_10 := wf_free r_10
  refine lv_istore_n (lv' := [(3, .int r_10), (0, .ref h), (1, .int a), (2, .int b)]) G0.1 G0.2.1 dX1_climbFrom_6 rfl hl (by decide) rfl (fun ls hl => ?_)
  refine lv_iconst (v := 0) G0.1 G0.2.1 dX1_climbFrom_7 (by decide) ?_
  refine lv_istore (lv' := [(4, .int 0), (3, .int r_10), (0, .ref h), (1, .int a), (2, .int b)]) G0.1 G0.2.1 dX1_climbFrom_8 hl (by decide) rfl (fun ls hl => ?_)
  refine lv_iload_n G0.1 G0.2.1 dX1_climbFrom_10 rfl (lv_at hl 3 rfl) ?_
  refine lv_iconst (v := 1) G0.1 G0.2.1 dX1_climbFrom_11 (by decide) ?_
  refine lv_iadd G0.1 G0.2.1 dX1_climbFrom_12 ?_
  refine lv_topi (fun x_11 ex_11 => ?_)
  first | have tx_11 := ti_add ex_11 (by omega) (by omega) | skip
  refine lv_istore (lv' := [(5, .int x_11), (4, .int 0), (3, .int r_10), (0, .ref h), (1, .int a), (2, .int b)]) G0.1 G0.2.1 dX1_climbFrom_13 hl (by decide) rfl (fun ls hl => ?_)
  have lo_15 : ∀ n_15 : Nat, ∀ (v_12 : Int32) (v_13 : Int32) (H_j15 : Heap) (locs : List Loc) (ls : Array Slot), (2147483647 - v_12.toInt).toNat = n_15 → (0 ≤ v_12.toInt ∧ v_12.toInt ≤ 2147483647) → py_W E (va_A (va_pl L f) s.heap.size) s L f H_j15 locs → lv_has ls 7 [(5, .int v_12), (4, .int v_13), (3, .int r_10), (0, .ref h), (1, .int a), (2, .int b)] → W p l e (headSpec w_X1_climbFrom ({ frames := 1, cells := 0, slots := 0, locals := 24 })).room s m ([.ref h, .int a, .int b] : List Value).toArray below meth c H_j15 locs 0 0 (MQ below (py_Qi E L f s.heap.size (fun _ L1 f1 => L = L1 ∧ f = f1)) ([.ref h, .int a, .int b] : List Value).toArray s 0 0 (va_A (va_pl L f) s.heap.size)) (F0 m 15 ls []) := by
    intro n_15
    induction n_15 using Nat.strongRecOn with
    | _ n_15 ih_15 =>
      intro v_12 v_13 H_j15 locs ls hn_15 bv_12 hw hl
      refine lv_iload G0.1 G0.2.1 dX1_climbFrom_15 (lv_at hl 0 rfl) ?_
      refine lv_aload_n G0.1 G0.2.1 dX1_climbFrom_17 rfl (lv_at hl 3 rfl) ?_
      refine py_get (C := RX1) (T := TX1) (N := 3) (k := 2) (v := .int v_3) G0 hw in_X1_climbFrom_X1 rfl hr_5 (by decide) (by decide +kernel) rfl dX1_climbFrom_18 ?_
      refine lv_icmp_ge (tgt := 66) G0.1 G0.2.1 dX1_climbFrom_21 (by decide) (fun c_14 => ?_) (fun c_14 => ?_)
      · skip
        have tc_14 := ti_le c_14
        refine lv_iload G0.1 G0.2.1 dX1_climbFrom_66 (lv_at hl 1 rfl) ?_
        exact py_iret G0 hr rfl hlk hw ⟨rfl, rfl⟩ dX1_climbFrom_68
      · skip
        have tc_14 := ti_nle c_14
        refine lv_iload_n G0.1 G0.2.1 dX1_climbFrom_24 rfl (lv_at hl 2 rfl) ?_
        refine lv_iconst (v := (-1)) G0.1 G0.2.1 dX1_climbFrom_25 (by decide) ?_
        refine lv_icmp_eq (tgt := 66) G0.1 G0.2.1 dX1_climbFrom_26 (by decide) (fun c_15 => ?_) (fun c_15 => ?_)
        · skip
          have tc_15 := ti_eq c_15
          refine lv_iload G0.1 G0.2.1 dX1_climbFrom_66 (lv_at hl 1 rfl) ?_
          exact py_iret G0 hr rfl hlk hw ⟨rfl, rfl⟩ dX1_climbFrom_68
        · skip
          have tc_15 := ti_ne c_15
          refine lv_aload_n G0.1 G0.2.1 dX1_climbFrom_29 rfl (lv_at hl 3 rfl) ?_
          refine lv_iload G0.1 G0.2.1 dX1_climbFrom_30 (lv_at hl 0 rfl) ?_
          refine lv_iload_n G0.1 G0.2.1 dX1_climbFrom_32 rfl (lv_at hl 5 rfl) ?_
          refine py_calli hw (va_runV (As := [.int v_12, .int b]) (rest := []) G0 (c_X1_levelIn l E G L f H_j15.size h v_12 b hG hWF Th ⟨by omega, by omega⟩ ⟨by omega, by omega⟩) (cwV 2 G0.2.2.2.2 g_X1_climbFrom_X1_levelIn_39 rfl rfl rfl (by decide +kernel) ⟨(Nat.le_of_ble_eq_true rfl), (Nat.le_of_ble_eq_true rfl)⟩) (py_preV hw (C := RX1) (T := TX1) (N := 3) rfl hr_5) rfl rfl hl.1 rfl (lv_room (Nat.le_of_ble_eq_true rfl)) dX1_climbFrom_33 ⟨(Nat.le_of_ble_eq_true rfl), (Nat.le_of_ble_eq_true rfl)⟩) (fun r_20 L_16 f_17 H_18 locs hp_19 hw => ?_)
          obtain ⟨rfl, rfl⟩ := hp_19
          have br_20 := wf_free r_20
          refine lv_istore (lv' := [(6, .int r_20), (5, .int v_12), (4, .int v_13), (3, .int r_10), (0, .ref h), (1, .int a), (2, .int b)]) G0.1 G0.2.1 dX1_climbFrom_36 hl (by decide) rfl (fun ls hl => ?_)
          refine lv_iload G0.1 G0.2.1 dX1_climbFrom_38 (lv_at hl 0 rfl) ?_
          refine lv_iconst (v := (-1)) G0.1 G0.2.1 dX1_climbFrom_40 (by decide) ?_
          have jn_58 : ∀ (v_21 : Int32) (H_j58 : Heap) (locs : List Loc) (ls : Array Slot), py_W E (va_A (va_pl L f) s.heap.size) s L f H_j58 locs → lv_has ls 7 [(6, .int r_20), (5, .int v_12), (4, .int v_13), (3, .int r_10), (0, .ref h), (1, .int a), (2, .int b)] → W p l e (headSpec w_X1_climbFrom ({ frames := 1, cells := 0, slots := 0, locals := 24 })).room s m ([.ref h, .int a, .int b] : List Value).toArray below meth c H_j58 locs 0 0 (MQ below (py_Qi E L f s.heap.size (fun _ L1 f1 => L = L1 ∧ f = f1)) ([.ref h, .int a, .int b] : List Value).toArray s 0 0 (va_A (va_pl L f) s.heap.size)) (F0 m 58 ls [.int v_21]) := by
            intro v_21 H_j58 locs ls hw hl
            refine lv_istore (lv' := [(4, .int v_21), (6, .int r_20), (5, .int v_12), (3, .int r_10), (0, .ref h), (1, .int a), (2, .int b)]) G0.1 G0.2.1 dX1_climbFrom_58 hl (by decide) rfl (fun ls hl => ?_)
            obtain ⟨x_22, ex_22⟩ : ∃ y : Int32, y = v_12 + 1 := ⟨_, rfl⟩
            first | have tx_22 := ti_add ex_22 (by omega) (by omega) | skip
            refine lv_iinc (v := x_22) (lv' := [(5, .int x_22), (4, .int v_21), (6, .int r_20), (3, .int r_10), (0, .ref h), (1, .int a), (2, .int b)]) G0.1 G0.2.1 dX1_climbFrom_60 hl (k := 2) rfl (show _ + (1 : Int32) = _ from ex_22.symm) (by decide) rfl (fun ls hl => ?_)
            refine lv_goto (tgt := 15) G0.1 G0.2.1 dX1_climbFrom_63 (by decide) ?_
            exact ih_15 ((2147483647 - x_22.toInt).toNat) (by omega) x_22 v_21 _ _ ls rfl ⟨by omega, by omega⟩ hw (lv_sub hl [0, 1, 3, 4, 5, 6] rfl)
          refine lv_icmp_ne (tgt := 49) G0.1 G0.2.1 dX1_climbFrom_41 (by decide) (fun c_23 => ?_) (fun c_23 => ?_)
          · skip
            have tc_23 := ti_ne c_23
            refine lv_iload G0.1 G0.2.1 dX1_climbFrom_49 (lv_at hl 2 rfl) ?_
            refine lv_iload G0.1 G0.2.1 dX1_climbFrom_51 (lv_at hl 0 rfl) ?_
            refine lv_iload_n G0.1 G0.2.1 dX1_climbFrom_53 rfl (lv_at hl 3 rfl) ?_
            refine lv_isub G0.1 G0.2.1 dX1_climbFrom_54 ?_
            refine lv_topi (fun x_24 ex_24 => ?_)
            first | have tx_24 := ti_sub ex_24 (by omega) (by omega) | skip
            refine va_mmax G0.1 G0.2.1 (by rw [G0.2.2.1, hl.1]) G0.2.2.2.1 (G0.2.2.2.2 (Cond.methodLink RX1 42 Lib.Math.max.name) (by decide +kernel)) (G0.2.2.2.2 (Cond.static Lib.Math.max.name) (by decide +kernel)) (G0.2.2.2.2 (Cond.initialized "java/lang/Math") (by decide +kernel)) (G0.2.2.2.2 (Cond.code Lib.Math.max.name Lib.Math.max.code 2 (some .int)) (by decide +kernel)) (Nat.le_of_ble_eq_true rfl) (Nat.le_of_ble_eq_true rfl) (Nat.le_of_ble_eq_true rfl) (Nat.le_of_ble_eq_true rfl) dX1_climbFrom_55 ?_
            refine lv_topi (fun x_25 ex_25 => ?_)
            have tx_25 := ti_max ex_25
            exact jn_58 x_25 _ _ ls hw (lv_sub hl [0, 1, 2, 3, 4, 5, 6] rfl)
          · skip
            have tc_23 := ti_eq c_23
            refine lv_iload G0.1 G0.2.1 dX1_climbFrom_44 (lv_at hl 2 rfl) ?_
            refine lv_goto (tgt := 58) G0.1 G0.2.1 dX1_climbFrom_46 (by decide) ?_
            exact jn_58 v_13 _ _ ls hw (lv_sub hl [0, 1, 2, 3, 4, 5, 6] rfl)
  exact lo_15 _ x_11 0 _ _ ls rfl ⟨by omega, by omega⟩ hw (lv_sub hl [0, 1, 2, 3, 4, 5] rfl)

def w_X0_add : List Cond := .code yX0_add cX0_add 4 (some .int) :: ([Cond.fieldLink RX0 23 "HeadYear$Buyings" "price" "I", Cond.methodLink RX0 26 Lib.Math.abs.name, Cond.static Lib.Math.abs.name, Cond.initialized "java/lang/Math", Cond.code Lib.Math.abs.name Lib.Math.abs.code 1 (some .int), Cond.fieldLink RX0 19 "HeadYear$Buyings" "count" "I", Cond.fieldLink RX0 9 "HeadYear$Buyings" "family" "[I", Cond.fieldLink RX0 13 "HeadYear$Buyings" "levels" "[I", Cond.fieldLink RX0 16 "HeadYear$Buyings" "cost" "[I"] ++ (u_ws RX0 TX0 5 ++ ([])))
theorem in_X0_add_X0 : ∀ w ∈ u_ws RX0 TX0 5, w ∈ w_X0_add := fun _ h => List.mem_cons_of_mem _ (List.mem_append_right _ (List.mem_append_left _ h))
set_option maxHeartbeats 4000000 in
set_option maxRecDepth 100000 in
theorem c_X0_add (l : Launch) (E : py_E) (G : wf_G) (L : List Nat) (f : py_F) (sz : Nat) (h : Nat) (a : Int32) (b : Int32) (hG : GT G) (hWF : WF E G L f) (Th : G.1 h = 1) (Ba : (0 ≤ a.toInt ∧ a.toInt ≤ 9)) : Met l yX0_add w_X0_add ({ frames := 1, cells := 0, slots := 0, locals := 24 }) (py_Pc E [.ref h, .int a, .int b] L f sz) (py_Qi E L f sz (fun _ L1 f1 => WF E G L1 f1 ∧ RP E G f f1 ∧ KP G [1, 28, 29] false f f1)) 0 0 (va_A (va_pl L f) sz) := by
  refine Met.ofW (cc := cX0_add) (maxL := 4) (ret := (some .int)) (by decide) rfl ?_
  intro p e s m args below meth c s₁ B hml hv
  obtain ⟨rfl, rfl, hw⟩ := py_start hv
  have G0 : CallFix p m c cX0_add 4 s _ w_X0_add RX0 := ⟨B.exec, B.bytes, hml, findClass_of_methodNamed B.named, atoms_spec (ws := w_X0_add) B.pre⟩
  have hr := B.returns
  have hlk := B.notSynchronized
  have kcm1 : (-1 : Int32).toInt = -1 := rfl
  have kc0 : (0 : Int32).toInt = 0 := rfl
  have kc1 : (1 : Int32).toInt = 1 := rfl
  have kc40 : (40 : Int32).toInt = 40 := rfl
  have hl := lv_entry ([.ref h, .int a, .int b]) (n := 4) (Nat.le_of_ble_eq_true rfl)
  rw [lg_entry_eq]
  generalize (lg_sl ([.ref h, .int a, .int b]) ++ List.replicate (4 - (lg_sl ([.ref h, .int a, .int b])).length) Slot.unset).toArray = ls at hl ⊢
  have hl : lv_has ls 4 [(0, .ref h), (1, .int a), (2, .int b)] := hl
  have hRP : RP E G f f := RP.refl
  have hKP : KP G [1, 28, 29] false f f := KP.refl
  refine lv_aload_n G0.1 G0.2.1 dX0_add_0 rfl (lv_at hl 0 rfl) ?_
  obtain ⟨t_1, t_2, t_3⟩ := wt_0 hG Th
  obtain ⟨v_4, v_5, hr_8, b_6, b_7⟩ := wg_0 hWF Th
  refine py_get (C := RX0) (T := TX0) (N := 5) (k := 4) (v := .int v_5) G0 hw in_X0_add_X0 rfl hr_8 (by decide) (by decide +kernel) rfl dX0_add_1 ?_
  refine lv_iload_n G0.1 G0.2.1 dX0_add_4 rfl (lv_at hl 2 rfl) ?_
  refine va_mabs G0.1 G0.2.1 (by rw [G0.2.2.1, hl.1]) G0.2.2.2.1 (G0.2.2.2.2 (Cond.methodLink RX0 26 Lib.Math.abs.name) (by decide +kernel)) (G0.2.2.2.2 (Cond.static Lib.Math.abs.name) (by decide +kernel)) (G0.2.2.2.2 (Cond.initialized "java/lang/Math") (by decide +kernel)) (G0.2.2.2.2 (Cond.code Lib.Math.abs.name Lib.Math.abs.code 1 (some .int)) (by decide +kernel)) (Nat.le_of_ble_eq_true rfl) (Nat.le_of_ble_eq_true rfl) (Nat.le_of_ble_eq_true rfl) (Nat.le_of_ble_eq_true rfl) dX0_add_5 ?_
  refine lv_topi (fun x_9 ex_9 => ?_)
  refine lv_imul G0.1 G0.2.1 dX0_add_8 ?_
  refine lv_topi (fun x_10 ex_10 => ?_)
  refine lv_istore_n (lv' := [(3, .int x_10), (0, .ref h), (1, .int a), (2, .int b)]) G0.1 G0.2.1 dX0_add_9 rfl hl (by decide) rfl (fun ls hl => ?_)
  refine lv_aload_n G0.1 G0.2.1 dX0_add_10 rfl (lv_at hl 1 rfl) ?_
  refine py_get (C := RX0) (T := TX0) (N := 5) (k := 3) (v := .int v_4) G0 hw in_X0_add_X0 rfl hr_8 (by decide) (by decide +kernel) rfl dX0_add_11 ?_
  refine lv_bipush (v := 40) G0.1 G0.2.1 dX0_add_14 (by decide) ?_
  refine lv_icmp_ge (tgt := 59) G0.1 G0.2.1 dX0_add_16 (by decide) (fun c_11 => ?_) (fun c_11 => ?_)
  · skip
    have tc_11 := ti_le c_11
    refine lv_iload_n G0.1 G0.2.1 dX0_add_59 rfl (lv_at hl 0 rfl) ?_
    exact py_iret G0 hr rfl hlk hw ⟨hWF, hRP, hKP⟩ dX0_add_60
  · skip
    have tc_11 := ti_nle c_11
    refine lv_aload_n G0.1 G0.2.1 dX0_add_19 rfl (lv_at hl 1 rfl) ?_
    refine py_get (C := RX0) (T := TX0) (N := 5) (k := 0) (v := .ref (G.2 h 0)) G0 hw in_X0_add_X0 rfl hr_8 (by decide) (by decide +kernel) rfl dX0_add_20 ?_
    refine lv_aload_n G0.1 G0.2.1 dX0_add_23 rfl (lv_at hl 1 rfl) ?_
    refine py_get (C := RX0) (T := TX0) (N := 5) (k := 3) (v := .int v_4) G0 hw in_X0_add_X0 rfl hr_8 (by decide) (by decide +kernel) rfl dX0_add_24 ?_
    refine lv_iload_n G0.1 G0.2.1 dX0_add_27 rfl (lv_at hl 2 rfl) ?_
    obtain ⟨g_12, ha_13, hi_14⟩ := wf_arr (n := 40) (lo := 0) (hi := 9) hWF t_1 (by decide) (fun _ => rfl)
    have rg_15 : vp_in v_4 40 := ti_in (by omega) (by omega)
    refine py_iast G0 hw ha_13 rg_15 dX0_add_28 (fun f_16 H_17 locs h_18 x_19 hw => ?_)
    have hKP := hKP.upd hWF x_19 t_1 (Or.inl (by decide))
    have hRP := hRP.trans (rp_upd hG hWF x_19 ha_13.2 h_18.2 (rp_code hG t_1 (by decide)) rfl)
    have hi_20 := wf_inu (k := (v_4 : Int32).toNatClampNeg) (x := a) hi_14 (by omega) (by omega)
    have hWF := wf_upd hWF h_18 x_19 (by rw [t_1]; exact ⟨_, rfl, hi_20⟩)
    have hr_8 := hr_8.ext x_19 (py_ne_arr hr_8 ha_13)
    refine lv_aload_n G0.1 G0.2.1 dX0_add_29 rfl (lv_at hl 1 rfl) ?_
    refine py_get (C := RX0) (T := TX0) (N := 5) (k := 1) (v := .ref (G.2 h 1)) G0 hw in_X0_add_X0 rfl hr_8 (by decide) (by decide +kernel) rfl dX0_add_30 ?_
    refine lv_aload_n G0.1 G0.2.1 dX0_add_33 rfl (lv_at hl 1 rfl) ?_
    refine py_get (C := RX0) (T := TX0) (N := 5) (k := 3) (v := .int v_4) G0 hw in_X0_add_X0 rfl hr_8 (by decide) (by decide +kernel) rfl dX0_add_34 ?_
    refine lv_iload_n G0.1 G0.2.1 dX0_add_37 rfl (lv_at hl 3 rfl) ?_
    obtain ⟨g_21, ha_22, hi_23⟩ := wf_arr (n := 40) (lo := (-2147483648)) (hi := 2147483647) hWF t_2 (by decide) (fun _ => rfl)
    have rg_24 : vp_in v_4 40 := ti_in (by omega) (by omega)
    refine py_iast G0 hw ha_22 rg_24 dX0_add_38 (fun f_25 H_26 locs h_27 x_28 hw => ?_)
    have hKP := hKP.upd hWF x_28 t_2 (Or.inl (by decide))
    have hRP := hRP.trans (rp_upd hG hWF x_28 ha_22.2 h_27.2 (rp_code hG t_2 (by decide)) rfl)
    have hi_29 := wf_inu (k := (v_4 : Int32).toNatClampNeg) (x := b) hi_23 (wf_free b).1 (wf_free b).2
    have hWF := wf_upd hWF h_27 x_28 (by rw [t_2]; exact ⟨_, rfl, hi_29⟩)
    have hr_8 := hr_8.ext x_28 (py_ne_arr hr_8 ha_22)
    have h_18 := h_18.ext x_28 (wf_ne t_1 t_2 (by decide))
    refine lv_aload_n G0.1 G0.2.1 dX0_add_39 rfl (lv_at hl 1 rfl) ?_
    refine py_get (C := RX0) (T := TX0) (N := 5) (k := 2) (v := .ref (G.2 h 2)) G0 hw in_X0_add_X0 rfl hr_8 (by decide) (by decide +kernel) rfl dX0_add_40 ?_
    refine lv_aload_n G0.1 G0.2.1 dX0_add_43 rfl (lv_at hl 1 rfl) ?_
    refine py_get (C := RX0) (T := TX0) (N := 5) (k := 3) (v := .int v_4) G0 hw in_X0_add_X0 rfl hr_8 (by decide) (by decide +kernel) rfl dX0_add_44 ?_
    refine lv_iload_n G0.1 G0.2.1 dX0_add_47 rfl (lv_at hl 0 rfl) ?_
    obtain ⟨g_30, ha_31, hi_32⟩ := wf_arr (n := 40) (lo := (-2147483648)) (hi := 2147483647) hWF t_3 (by decide) (fun _ => rfl)
    have rg_33 : vp_in v_4 40 := ti_in (by omega) (by omega)
    refine py_iast G0 hw ha_31 rg_33 dX0_add_48 (fun f_34 H_35 locs h_36 x_37 hw => ?_)
    have hKP := hKP.upd hWF x_37 t_3 (Or.inl (by decide))
    have hRP := hRP.trans (rp_upd hG hWF x_37 ha_31.2 h_36.2 (rp_code hG t_3 (by decide)) rfl)
    have hi_38 := wf_inu (k := (v_4 : Int32).toNatClampNeg) (x := x_10) hi_32 (wf_free x_10).1 (wf_free x_10).2
    have hWF := wf_upd hWF h_36 x_37 (by rw [t_3]; exact ⟨_, rfl, hi_38⟩)
    have hr_8 := hr_8.ext x_37 (py_ne_arr hr_8 ha_31)
    have h_18 := h_18.ext x_37 (wf_ne t_1 t_3 (by decide))
    refine lv_aload_n G0.1 G0.2.1 dX0_add_49 rfl (lv_at hl 1 rfl) ?_
    refine lv_dup G0.1 G0.2.1 dX0_add_50 rfl ?_
    refine py_get (C := RX0) (T := TX0) (N := 5) (k := 3) (v := .int v_4) G0 hw in_X0_add_X0 rfl hr_8 (by decide) (by decide +kernel) rfl dX0_add_51 ?_
    refine lv_iconst (v := 1) G0.1 G0.2.1 dX0_add_54 (by decide) ?_
    refine lv_iadd G0.1 G0.2.1 dX0_add_55 ?_
    refine lv_topi (fun x_39 ex_39 => ?_)
    first | have tx_39 := ti_add ex_39 (by omega) (by omega) | skip
    refine py_put (C := RX0) (T := TX0) (N := 5) (k := 3) (v := .int x_39) (fs' := [.ref (G.2 h 0), .ref (G.2 h 1), .ref (G.2 h 2), .int x_39, .int v_5]) (ty0 := tyX0) G0 hw tyX0_ok nmX0 in_X0_add_X0 rfl hr_8 (by decide) (by decide +kernel) rfl rfl rfl rfl (Nat.le_of_ble_eq_true rfl) rfl dX0_add_56 (fun f_40 H_41 locs h_42 x_43 hw => ?_)
    have hKP := hKP.upd hWF x_43 Th (Or.inl (by decide))
    have hRP := hRP.trans (rp_upd hG hWF x_43 hr_8.2 h_42.2 (rp_code hG Th (by decide)) rfl)
    have hWF := wf_upd hWF h_42 x_43 (by rw [Th]; exact ⟨x_39, v_5, rfl, ⟨by omega, by omega⟩, ⟨by omega, by omega⟩⟩)
    have h_36 := h_36.ext x_43 (Ne.symm (py_ne_arr hr_8 h_36))
    have h_18 := h_18.ext x_43 (Ne.symm (py_ne_arr hr_8 h_18))
    refine lv_iload_n G0.1 G0.2.1 dX0_add_59 rfl (lv_at hl 0 rfl) ?_
    exact py_iret G0 hr rfl hlk hw ⟨hWF, hRP, hKP⟩ dX0_add_60
