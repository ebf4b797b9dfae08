theorem dX10_faultOf_0 : decode cX10_faultOf 0 = .ok (.aload_n 1, 1) := by decide +kernel
theorem dX10_faultOf_1 : decode cX10_faultOf 1 = .ok (.iconst 0, 1) := by decide +kernel
theorem dX10_faultOf_2 : decode cX10_faultOf 2 = .ok (.putfield 22, 3) := by decide +kernel
theorem dX10_faultOf_5 : decode cX10_faultOf 5 = .ok (.aload_n 0, 1) := by decide +kernel
theorem dX10_faultOf_6 : decode cX10_faultOf 6 = .ok (.getfield 18, 3) := by decide +kernel
theorem dX10_faultOf_9 : decode cX10_faultOf 9 = .ok (.invokevirtual 28, 3) := by decide +kernel
theorem dX10_faultOf_12 : decode cX10_faultOf 12 = .ok (.aload_n 0, 1) := by decide +kernel
theorem dX10_faultOf_13 : decode cX10_faultOf 13 = .ok (.aload_n 1, 1) := by decide +kernel
theorem dX10_faultOf_14 : decode cX10_faultOf 14 = .ok (.invokevirtual 31, 3) := by decide +kernel
theorem dX10_faultOf_17 : decode cX10_faultOf 17 = .ok (.istore_n 2, 1) := by decide +kernel
theorem dX10_faultOf_18 : decode cX10_faultOf 18 = .ok (.iconst 0, 1) := by decide +kernel
theorem dX10_faultOf_19 : decode cX10_faultOf 19 = .ok (.istore_n 3, 1) := by decide +kernel
theorem dX10_faultOf_20 : decode cX10_faultOf 20 = .ok (.iload_n 3, 1) := by decide +kernel
theorem dX10_faultOf_21 : decode cX10_faultOf 21 = .ok (.sipush 160, 3) := by decide +kernel
theorem dX10_faultOf_24 : decode cX10_faultOf 24 = .ok (.if_icmp .ge 28, 3) := by decide +kernel
theorem dX10_faultOf_27 : decode cX10_faultOf 27 = .ok (.iload_n 2, 1) := by decide +kernel
theorem dX10_faultOf_28 : decode cX10_faultOf 28 = .ok (.ifCond .eq 24, 3) := by decide +kernel
theorem dX10_faultOf_52 : decode cX10_faultOf 52 = .ok (.iload_n 2, 1) := by decide +kernel
theorem dX10_faultOf_53 : decode cX10_faultOf 53 = .ok (.ifCond .eq 10, 3) := by decide +kernel
theorem dX10_faultOf_63 : decode cX10_faultOf 63 = .ok (.aload_n 1, 1) := by decide +kernel
theorem dX10_faultOf_64 : decode cX10_faultOf 64 = .ok (.getfield 22, 3) := by decide +kernel
theorem dX10_faultOf_67 : decode cX10_faultOf 67 = .ok (.ireturn, 1) := by decide +kernel
theorem dX10_readClause_0 : decode cX10_readClause 0 = .ok (.aload_n 1, 1) := by decide +kernel
theorem dX10_readClause_1 : decode cX10_readClause 1 = .ok (.invokevirtual 39, 3) := by decide +kernel
theorem dX10_readClause_4 : decode cX10_readClause 4 = .ok (.istore_n 2, 1) := by decide +kernel
theorem dX10_readClause_5 : decode cX10_readClause 5 = .ok (.iload_n 2, 1) := by decide +kernel
theorem dX10_readClause_6 : decode cX10_readClause 6 = .ok (.bipush 108, 2) := by decide +kernel
theorem dX10_readClause_8 : decode cX10_readClause 8 = .ok (.if_icmp .ne 45, 3) := by decide +kernel
theorem dX10_readClause_53 : decode cX10_readClause 53 = .ok (.iload_n 2, 1) := by decide +kernel
theorem dX10_readClause_54 : decode cX10_readClause 54 = .ok (.bipush 107, 2) := by decide +kernel
theorem dX10_readClause_56 : decode cX10_readClause 56 = .ok (.if_icmp .ne 45, 3) := by decide +kernel
theorem dX10_readClause_101 : decode cX10_readClause 101 = .ok (.iconst 0, 1) := by decide +kernel
theorem dX10_readClause_102 : decode cX10_readClause 102 = .ok (.ireturn, 1) := by decide +kernel
theorem dX11_count_0 : decode cX11_count 0 = .ok (.iload_n 1, 1) := by decide +kernel
theorem dX11_count_1 : decode cX11_count 1 = .ok (.tableswitch 111 0 7 #[47, 58, 69, 74, 82, 90, 95, 103], 47) := by decide +kernel
theorem dX11_count_48 : decode cX11_count 48 = .ok (.aload_n 0, 1) := by decide +kernel
theorem dX11_count_49 : decode cX11_count 49 = .ok (.getfield 47, 3) := by decide +kernel
theorem dX11_count_52 : decode cX11_count 52 = .ok (.getfield 128, 3) := by decide +kernel
theorem dX11_count_55 : decode cX11_count 55 = .ok (.getfield 317, 3) := by decide +kernel
theorem dX11_count_58 : decode cX11_count 58 = .ok (.ireturn, 1) := by decide +kernel
theorem dX11_count_59 : decode cX11_count 59 = .ok (.aload_n 0, 1) := by decide +kernel
theorem dX11_count_60 : decode cX11_count 60 = .ok (.getfield 47, 3) := by decide +kernel
theorem dX11_count_63 : decode cX11_count 63 = .ok (.getfield 128, 3) := by decide +kernel
theorem dX11_count_66 : decode cX11_count 66 = .ok (.getfield 319, 3) := by decide +kernel
theorem dX11_count_69 : decode cX11_count 69 = .ok (.ireturn, 1) := by decide +kernel
theorem dX11_count_70 : decode cX11_count 70 = .ok (.aload_n 0, 1) := by decide +kernel
theorem dX11_count_71 : decode cX11_count 71 = .ok (.getfield 94, 3) := by decide +kernel
theorem dX11_count_74 : decode cX11_count 74 = .ok (.ireturn, 1) := by decide +kernel
theorem dX11_count_75 : decode cX11_count 75 = .ok (.aload_n 0, 1) := by decide +kernel
theorem dX11_count_76 : decode cX11_count 76 = .ok (.getfield 10, 3) := by decide +kernel
theorem dX11_count_79 : decode cX11_count 79 = .ok (.getfield 109, 3) := by decide +kernel
theorem dX11_count_82 : decode cX11_count 82 = .ok (.ireturn, 1) := by decide +kernel
theorem dX11_count_83 : decode cX11_count 83 = .ok (.aload_n 0, 1) := by decide +kernel
theorem dX11_count_84 : decode cX11_count 84 = .ok (.getfield 47, 3) := by decide +kernel
theorem dX11_count_87 : decode cX11_count 87 = .ok (.getfield 222, 3) := by decide +kernel
theorem dX11_count_90 : decode cX11_count 90 = .ok (.ireturn, 1) := by decide +kernel
theorem dX11_count_91 : decode cX11_count 91 = .ok (.aload_n 0, 1) := by decide +kernel
theorem dX11_count_92 : decode cX11_count 92 = .ok (.getfield 98, 3) := by decide +kernel
theorem dX11_count_95 : decode cX11_count 95 = .ok (.ireturn, 1) := by decide +kernel
theorem dX11_count_96 : decode cX11_count 96 = .ok (.aload_n 0, 1) := by decide +kernel
theorem dX11_count_97 : decode cX11_count 97 = .ok (.getfield 67, 3) := by decide +kernel
theorem dX11_count_100 : decode cX11_count 100 = .ok (.getfield 240, 3) := by decide +kernel
theorem dX11_count_103 : decode cX11_count 103 = .ok (.ireturn, 1) := by decide +kernel
theorem dX11_count_104 : decode cX11_count 104 = .ok (.aload_n 0, 1) := by decide +kernel
theorem dX11_count_105 : decode cX11_count 105 = .ok (.getfield 47, 3) := by decide +kernel
theorem dX11_count_108 : decode cX11_count 108 = .ok (.invokevirtual 350, 3) := by decide +kernel
theorem dX11_count_111 : decode cX11_count 111 = .ok (.ireturn, 1) := by decide +kernel
theorem dX11_count_112 : decode cX11_count 112 = .ok (.ldc 166, 2) := by decide +kernel
theorem dX11_count_114 : decode cX11_count 114 = .ok (.ireturn, 1) := by decide +kernel
theorem dX11_fault_0 : decode cX11_fault 0 = .ok (.iload_n 1, 1) := by decide +kernel
theorem dX11_fault_1 : decode cX11_fault 1 = .ok (.ifCond .ne 15, 3) := by decide +kernel
theorem dX11_fault_4 : decode cX11_fault 4 = .ok (.aload_n 0, 1) := by decide +kernel
theorem dX11_fault_5 : decode cX11_fault 5 = .ok (.getfield 19, 3) := by decide +kernel
theorem dX11_fault_8 : decode cX11_fault 8 = .ok (.aload_n 0, 1) := by decide +kernel
theorem dX11_fault_9 : decode cX11_fault 9 = .ok (.getfield 10, 3) := by decide +kernel
theorem dX11_fault_12 : decode cX11_fault 12 = .ok (.invokevirtual 116, 3) := by decide +kernel
theorem dX11_fault_15 : decode cX11_fault 15 = .ok (.ireturn, 1) := by decide +kernel
theorem dX11_fault_16 : decode cX11_fault 16 = .ok (.iload_n 1, 1) := by decide +kernel
theorem dX11_fault_17 : decode cX11_fault 17 = .ok (.iconst 1, 1) := by decide +kernel
theorem dX11_fault_18 : decode cX11_fault 18 = .ok (.if_icmp .ne 17, 3) := by decide +kernel
theorem dX11_fault_21 : decode cX11_fault 21 = .ok (.aload_n 0, 1) := by decide +kernel
theorem dX11_fault_22 : decode cX11_fault 22 = .ok (.getfield 26, 3) := by decide +kernel
theorem dX11_fault_25 : decode cX11_fault 25 = .ok (.aload_n 0, 1) := by decide +kernel
theorem dX11_fault_26 : decode cX11_fault 26 = .ok (.getfield 10, 3) := by decide +kernel
theorem dX11_fault_29 : decode cX11_fault 29 = .ok (.invokevirtual 120, 3) := by decide +kernel
theorem dX11_fault_32 : decode cX11_fault 32 = .ok (.goto 5, 3) := by decide +kernel
theorem dX11_fault_35 : decode cX11_fault 35 = .ok (.bipush (-2), 2) := by decide +kernel
theorem dX11_fault_37 : decode cX11_fault 37 = .ok (.ireturn, 1) := by decide +kernel
theorem dX11_text_0 : decode cX11_text 0 = .ok (.iload_n 1, 1) := by decide +kernel
theorem dX11_text_1 : decode cX11_text 1 = .ok (.ifCond .ne 23, 3) := by decide +kernel
theorem dX11_text_4 : decode cX11_text 4 = .ok (.aload_n 0, 1) := by decide +kernel
theorem dX11_text_5 : decode cX11_text 5 = .ok (.getfield 19, 3) := by decide +kernel
theorem dX11_text_8 : decode cX11_text 8 = .ok (.aload_n 0, 1) := by decide +kernel
theorem dX11_text_9 : decode cX11_text 9 = .ok (.getfield 10, 3) := by decide +kernel
theorem dX11_text_12 : decode cX11_text 12 = .ok (.invokevirtual 116, 3) := by decide +kernel
theorem dX11_text_15 : decode cX11_text 15 = .ok (.iconst (-1), 1) := by decide +kernel
theorem dX11_text_16 : decode cX11_text 16 = .ok (.if_icmp .ne 8, 3) := by decide +kernel
theorem dX11_text_24 : decode cX11_text 24 = .ok (.iload_n 1, 1) := by decide +kernel
theorem dX11_text_25 : decode cX11_text 25 = .ok (.iconst 1, 1) := by decide +kernel
theorem dX11_text_26 : decode cX11_text 26 = .ok (.if_icmp .ne 31, 3) := by decide +kernel
theorem dX11_text_29 : decode cX11_text 29 = .ok (.aload_n 0, 1) := by decide +kernel
theorem dX11_text_30 : decode cX11_text 30 = .ok (.getfield 94, 3) := by decide +kernel
theorem dX11_text_33 : decode cX11_text 33 = .ok (.iconst 4, 1) := by decide +kernel
theorem dX11_text_34 : decode cX11_text 34 = .ok (.if_icmp .ge 23, 3) := by decide +kernel
theorem dX11_text_37 : decode cX11_text 37 = .ok (.aload_n 0, 1) := by decide +kernel
theorem dX11_text_38 : decode cX11_text 38 = .ok (.getfield 26, 3) := by decide +kernel
theorem dX11_text_41 : decode cX11_text 41 = .ok (.aload_n 0, 1) := by decide +kernel
theorem dX11_text_42 : decode cX11_text 42 = .ok (.getfield 10, 3) := by decide +kernel
theorem dX11_text_45 : decode cX11_text 45 = .ok (.invokevirtual 120, 3) := by decide +kernel
theorem dX11_text_48 : decode cX11_text 48 = .ok (.iconst (-1), 1) := by decide +kernel
theorem dX11_text_49 : decode cX11_text 49 = .ok (.if_icmp .ne 8, 3) := by decide +kernel
theorem dX11_text_57 : decode cX11_text 57 = .ok (.iconst (-1), 1) := by decide +kernel
theorem dX11_text_58 : decode cX11_text 58 = .ok (.ireturn, 1) := by decide +kernel
theorem dX2_familiesAt_0 : decode cX2_familiesAt 0 = .ok (.iconst 0, 1) := by decide +kernel
theorem dX2_familiesAt_1 : decode cX2_familiesAt 1 = .ok (.istore_n 2, 1) := by decide +kernel
theorem dX2_familiesAt_2 : decode cX2_familiesAt 2 = .ok (.iconst 0, 1) := by decide +kernel
theorem dX2_familiesAt_3 : decode cX2_familiesAt 3 = .ok (.istore_n 3, 1) := by decide +kernel
theorem dX2_familiesAt_4 : decode cX2_familiesAt 4 = .ok (.iload_n 3, 1) := by decide +kernel
theorem dX2_familiesAt_5 : decode cX2_familiesAt 5 = .ok (.aload_n 0, 1) := by decide +kernel
theorem dX2_familiesAt_6 : decode cX2_familiesAt 6 = .ok (.getfield 43, 3) := by decide +kernel
theorem dX2_familiesAt_9 : decode cX2_familiesAt 9 = .ok (.getfield 55, 3) := by decide +kernel
theorem dX2_familiesAt_12 : decode cX2_familiesAt 12 = .ok (.if_icmp .ge 27, 3) := by decide +kernel
theorem dX2_familiesAt_39 : decode cX2_familiesAt 39 = .ok (.iload_n 2, 1) := by decide +kernel
theorem dX2_familiesAt_40 : decode cX2_familiesAt 40 = .ok (.ireturn, 1) := by decide +kernel
theorem dX2_goneFamilies_0 : decode cX2_goneFamilies 0 = .ok (.aload_n 0, 1) := by decide +kernel
theorem dX2_goneFamilies_1 : decode cX2_goneFamilies 1 = .ok (.iconst (-1), 1) := by decide +kernel
theorem dX2_goneFamilies_2 : decode cX2_goneFamilies 2 = .ok (.invokevirtual 88, 3) := by decide +kernel
theorem dX2_goneFamilies_5 : decode cX2_goneFamilies 5 = .ok (.ireturn, 1) := by decide +kernel
theorem dX4_faultOf_0 : decode cX4_faultOf 0 = .ok (.aload_n 1, 1) := by decide +kernel
theorem dX4_faultOf_1 : decode cX4_faultOf 1 = .ok (.iconst 0, 1) := by decide +kernel
theorem dX4_faultOf_2 : decode cX4_faultOf 2 = .ok (.putfield 18, 3) := by decide +kernel
theorem dX4_faultOf_5 : decode cX4_faultOf 5 = .ok (.aload_n 0, 1) := by decide +kernel
theorem dX4_faultOf_6 : decode cX4_faultOf 6 = .ok (.getfield 12, 3) := by decide +kernel
theorem dX4_faultOf_9 : decode cX4_faultOf 9 = .ok (.iconst 0, 1) := by decide +kernel
theorem dX4_faultOf_10 : decode cX4_faultOf 10 = .ok (.putfield 24, 3) := by decide +kernel
theorem dX4_faultOf_13 : decode cX4_faultOf 13 = .ok (.aload_n 0, 1) := by decide +kernel
theorem dX4_faultOf_14 : decode cX4_faultOf 14 = .ok (.aload_n 1, 1) := by decide +kernel
theorem dX4_faultOf_15 : decode cX4_faultOf 15 = .ok (.invokevirtual 27, 3) := by decide +kernel
theorem dX4_faultOf_18 : decode cX4_faultOf 18 = .ok (.istore_n 2, 1) := by decide +kernel
theorem dX4_faultOf_19 : decode cX4_faultOf 19 = .ok (.iconst 0, 1) := by decide +kernel
theorem dX4_faultOf_20 : decode cX4_faultOf 20 = .ok (.istore_n 3, 1) := by decide +kernel
theorem dX4_faultOf_21 : decode cX4_faultOf 21 = .ok (.iload_n 3, 1) := by decide +kernel
theorem dX4_faultOf_22 : decode cX4_faultOf 22 = .ok (.sipush 160, 3) := by decide +kernel
theorem dX4_faultOf_25 : decode cX4_faultOf 25 = .ok (.if_icmp .ge 28, 3) := by decide +kernel
theorem dX4_faultOf_28 : decode cX4_faultOf 28 = .ok (.iload_n 2, 1) := by decide +kernel
theorem dX4_faultOf_29 : decode cX4_faultOf 29 = .ok (.ifCond .eq 24, 3) := by decide +kernel
theorem dX4_faultOf_53 : decode cX4_faultOf 53 = .ok (.iload_n 2, 1) := by decide +kernel
theorem dX4_faultOf_54 : decode cX4_faultOf 54 = .ok (.ifCond .eq 14, 3) := by decide +kernel
theorem dX4_faultOf_68 : decode cX4_faultOf 68 = .ok (.aload_n 1, 1) := by decide +kernel
theorem dX4_faultOf_69 : decode cX4_faultOf 69 = .ok (.getfield 18, 3) := by decide +kernel
theorem dX4_faultOf_72 : decode cX4_faultOf 72 = .ok (.ireturn, 1) := by decide +kernel
theorem dX4_readClause_0 : decode cX4_readClause 0 = .ok (.aload_n 1, 1) := by decide +kernel
theorem dX4_readClause_1 : decode cX4_readClause 1 = .ok (.bipush 121, 2) := by decide +kernel
theorem dX4_readClause_3 : decode cX4_readClause 3 = .ok (.invokevirtual 31, 3) := by decide +kernel
theorem dX4_readClause_6 : decode cX4_readClause 6 = .ok (.ifCond .eq 12, 3) := by decide +kernel
theorem dX4_readClause_18 : decode cX4_readClause 18 = .ok (.iconst 0, 1) := by decide +kernel
theorem dX4_readClause_19 : decode cX4_readClause 19 = .ok (.ireturn, 1) := by decide +kernel
theorem dX8_next_0 : decode cX8_next 0 = .ok (.aload_n 0, 1) := by decide +kernel
theorem dX8_next_1 : decode cX8_next 1 = .ok (.getfield 17, 3) := by decide +kernel
theorem dX8_next_4 : decode cX8_next 4 = .ok (.aload_n 0, 1) := by decide +kernel
theorem dX8_next_5 : decode cX8_next 5 = .ok (.getfield 13, 3) := by decide +kernel
theorem dX8_next_8 : decode cX8_next 8 = .ok (.if_icmp .ge 30, 3) := by decide +kernel
theorem dX8_next_38 : decode cX8_next 38 = .ok (.aload_n 0, 1) := by decide +kernel
theorem dX8_next_39 : decode cX8_next 39 = .ok (.getfield 17, 3) := by decide +kernel
theorem dX8_next_42 : decode cX8_next 42 = .ok (.aload_n 0, 1) := by decide +kernel
theorem dX8_next_43 : decode cX8_next 43 = .ok (.getfield 13, 3) := by decide +kernel
theorem dX8_next_46 : decode cX8_next 46 = .ok (.if_icmp .ge 15, 3) := by decide +kernel
theorem dX8_next_61 : decode cX8_next 61 = .ok (.iconst 0, 1) := by decide +kernel
theorem dX8_next_62 : decode cX8_next 62 = .ok (.ireturn, 1) := by decide +kernel
theorem dX8_take_0 : decode cX8_take 0 = .ok (.aload_n 0, 1) := by decide +kernel
theorem dX8_take_1 : decode cX8_take 1 = .ok (.invokevirtual 23, 3) := by decide +kernel
theorem dX8_take_4 : decode cX8_take 4 = .ok (.iload_n 1, 1) := by decide +kernel
theorem dX8_take_5 : decode cX8_take 5 = .ok (.if_icmp .eq 5, 3) := by decide +kernel
theorem dX8_take_8 : decode cX8_take 8 = .ok (.iconst 0, 1) := by decide +kernel
theorem dX8_take_9 : decode cX8_take 9 = .ok (.ireturn, 1) := by decide +kernel
theorem dX9_clear_0 : decode cX9_clear 0 = .ok (.aload_n 0, 1) := by decide +kernel
theorem dX9_clear_1 : decode cX9_clear 1 = .ok (.iconst 0, 1) := by decide +kernel
theorem dX9_clear_2 : decode cX9_clear 2 = .ok (.putfield 34, 3) := by decide +kernel
theorem dX9_clear_5 : decode cX9_clear 5 = .ok (.aload_n 0, 1) := by decide +kernel
theorem dX9_clear_6 : decode cX9_clear 6 = .ok (.iconst 0, 1) := by decide +kernel
theorem dX9_clear_7 : decode cX9_clear 7 = .ok (.putfield 38, 3) := by decide +kernel
theorem dX9_clear_10 : decode cX9_clear 10 = .ok (.return_, 1) := by decide +kernel
def w_X2_familiesAt : List Cond := .code yX2_familiesAt cX2_familiesAt 4 (some .int) :: ([Cond.fieldLink RX2 43 "HeadYear$Folk" "valley" "LHeadYear$Valley;", Cond.fieldLink RX2 55 "HeadYear$Valley" "families" "I"] ++ (u_ws RX2 TX2 12 ++ (u_ws RX9 TX9 10 ++ ([]))))
theorem in_X2_familiesAt_X2 : ∀ w ∈ u_ws RX2 TX2 12, w ∈ w_X2_familiesAt := fun _ h => List.mem_cons_of_mem _ (List.mem_append_right _ (List.mem_append_left _ h))
theorem in_X2_familiesAt_X9 : ∀ w ∈ u_ws RX9 TX9 10, w ∈ w_X2_familiesAt := fun _ h => List.mem_cons_of_mem _ (List.mem_append_right _ (List.mem_append_right _ (List.mem_append_left _ h)))
set_option maxHeartbeats 4000000 in
set_option maxRecDepth 100000 in
theorem c_X2_familiesAt (l : Launch) (E : py_E) (L : List Nat) (f : py_F) (sz : Nat) (h : Nat) (a : Int32) (va : Nat) (xf xv : List Value) (hh : py_at L f h (.inr (2, xf))) (hxf : xf.length = 12) (hf9 : xf[9]? = some (.ref va)) (hva : py_at L f va (.inr (9, xv))) (hxv : xv.length = 10) (hv9 : xv[9]? = some (.int 0)) : Met l yX2_familiesAt w_X2_familiesAt ({ frames := 0, cells := 0, slots := 0, locals := 0 }) (py_Pc E [.ref h, .int a] L f sz) (py_Qi E L f sz (fun r L1 f1 => r = 0 ∧ L = L1 ∧ f = f1)) 0 0 (va_A (va_pl L f) sz) := by
  refine Met.ofW (cc := cX2_familiesAt) (maxL := 4) (ret := (some .int)) (by decide) rfl ?_
  intro p e s m args below meth c s₁ B hml hv
  obtain ⟨rfl, rfl, hw⟩ := py_start hv
  have G : CallFix p m c cX2_familiesAt 4 s _ w_X2_familiesAt RX2 := ⟨B.exec, B.bytes, hml, findClass_of_methodNamed B.named, atoms_spec (ws := w_X2_familiesAt) B.pre⟩
  have hr := B.returns
  have hlk := B.notSynchronized
  have hl := lv_entry ([.ref h, .int a]) (n := 4) (Nat.le_of_ble_eq_true rfl)
  rw [lg_entry_eq]
  generalize (lg_sl ([.ref h, .int a]) ++ List.replicate (4 - (lg_sl ([.ref h, .int a])).length) Slot.unset).toArray = ls at hl ⊢
  have hl : lv_has ls 4 [(0, .ref h), (1, .int a)] := hl
  refine lv_iconst (v := 0) G.1 G.2.1 dX2_familiesAt_0 (by decide) ?_
  refine lv_istore_n (lv' := [(2, .int 0), (0, .ref h), (1, .int a)]) G.1 G.2.1 dX2_familiesAt_1 rfl hl (by decide) rfl (fun ls hl => ?_)
  refine lv_iconst (v := 0) G.1 G.2.1 dX2_familiesAt_2 (by decide) ?_
  refine lv_istore_n (lv' := [(3, .int 0), (2, .int 0), (0, .ref h), (1, .int a)]) G.1 G.2.1 dX2_familiesAt_3 rfl hl (by decide) rfl (fun ls hl => ?_)
  refine lv_iload_n G.1 G.2.1 dX2_familiesAt_4 rfl (lv_at hl 0 rfl) ?_
  refine lv_aload_n G.1 G.2.1 dX2_familiesAt_5 rfl (lv_at hl 2 rfl) ?_
  refine py_get (C := RX2) (T := TX2) (N := 12) (k := 9) (v := .ref va) G hw in_X2_familiesAt_X2 rfl hh (by decide) (by decide +kernel) hf9 dX2_familiesAt_6 ?_
  refine py_get (C := RX9) (T := TX9) (N := 10) (k := 9) (v := .int 0) G hw in_X2_familiesAt_X9 rfl hva (by decide) (by decide +kernel) hv9 dX2_familiesAt_9 ?_
  refine lv_icmp_ge (tgt := 39) G.1 G.2.1 dX2_familiesAt_12 (by decide) (fun c_1 => ?_) (fun c_1 => ?_)
  · skip
    refine lv_iload_n G.1 G.2.1 dX2_familiesAt_39 rfl (lv_at hl 1 rfl) ?_
    exact py_iret G hr rfl hlk hw ⟨rfl, rfl, rfl⟩ dX2_familiesAt_40
  · skip
    exact absurd c_1 (by decide)

def w_X2_goneFamilies : List Cond := .code yX2_goneFamilies cX2_goneFamilies 1 (some .int) :: ([Cond.methodLink RX2 88 yX2_familiesAt, Cond.instanceMethod yX2_familiesAt, Cond.selects RX2 yX2_familiesAt yX2_familiesAt, Cond.initialized RX2] ++ (w_X2_familiesAt ++ ([])))
theorem gg_X2_goneFamilies_X2_familiesAt : GoodIn w_X2_goneFamilies w_X2_familiesAt := goodIn_sub (fun _ h => List.mem_cons_of_mem _ (List.mem_append_right _ (List.mem_append_left _ h))) (by decide +kernel)
theorem g_X2_goneFamilies_X2_familiesAt_88 : GoodIn w_X2_goneFamilies (wsV RX2 88 RX2 yX2_familiesAt w_X2_familiesAt) := goodIn_app (goodIn_of _ (by decide +kernel)) gg_X2_goneFamilies_X2_familiesAt
set_option maxHeartbeats 4000000 in
set_option maxRecDepth 100000 in
theorem c_X2_goneFamilies (l : Launch) (E : py_E) (L : List Nat) (f : py_F) (sz : Nat) (h : Nat) (va : Nat) (xf xv : List Value) (hh : py_at L f h (.inr (2, xf))) (hxf : xf.length = 12) (hf9 : xf[9]? = some (.ref va)) (hva : py_at L f va (.inr (9, xv))) (hxv : xv.length = 10) (hv9 : xv[9]? = some (.int 0)) : Met l yX2_goneFamilies w_X2_goneFamilies ({ frames := 1, cells := 0, slots := 0, locals := 23 }) (py_Pc E [.ref h] L f sz) (py_Qi E L f sz (fun r L1 f1 => r = 0 ∧ L = L1 ∧ f = f1)) 0 0 (va_A (va_pl L f) sz) := by
  refine Met.ofW (cc := cX2_goneFamilies) (maxL := 1) (ret := (some .int)) (by decide) rfl ?_
  intro p e s m args below meth c s₁ B hml hv
  obtain ⟨rfl, rfl, hw⟩ := py_start hv
  have G : CallFix p m c cX2_goneFamilies 1 s _ w_X2_goneFamilies RX2 := ⟨B.exec, B.bytes, hml, findClass_of_methodNamed B.named, atoms_spec (ws := w_X2_goneFamilies) B.pre⟩
  have hr := B.returns
  have hlk := B.notSynchronized
  have hl := lv_entry ([.ref h]) (n := 1) (Nat.le_of_ble_eq_true rfl)
  rw [lg_entry_eq]
  generalize (lg_sl ([.ref h]) ++ List.replicate (1 - (lg_sl ([.ref h])).length) Slot.unset).toArray = ls at hl ⊢
  have hl : lv_has ls 1 [(0, .ref h)] := hl
  refine lv_aload_n G.1 G.2.1 dX2_goneFamilies_0 rfl (lv_at hl 0 rfl) ?_
  refine lv_iconst (v := (-1)) G.1 G.2.1 dX2_goneFamilies_1 (by decide) ?_
  refine py_calli hw (va_runV (As := [.int (-1)]) (rest := []) G (c_X2_familiesAt l E L f s.heap.size h (-1) va xf xv hh hxf hf9 hva hxv hv9) (cwV 1 G.2.2.2.2 g_X2_goneFamilies_X2_familiesAt_88 rfl rfl rfl (by decide +kernel) ⟨(Nat.le_of_ble_eq_true rfl), (Nat.le_of_ble_eq_true rfl)⟩) (py_preV hw (C := RX2) (T := TX2) (N := 12) rfl hh) rfl rfl hl.1 rfl (lv_room (Nat.le_of_ble_eq_true rfl)) dX2_goneFamilies_2 ⟨(Nat.le_of_ble_eq_true rfl), (Nat.le_of_ble_eq_true rfl)⟩) (fun r_5 L_1 f_2 H_3 locs hp_4 hw => ?_)
  obtain ⟨rfl, rfl, rfl⟩ := hp_4
  exact py_iret G hr rfl hlk hw ⟨rfl, rfl, rfl⟩ dX2_goneFamilies_5

def w_X11_count : List Cond := .code yX11_count cX11_count 2 (some .int) :: ([Cond.fieldLink RX11 47 "HeadYear" "folk" "LHeadYear$Folk;", Cond.fieldLink RX11 128 "HeadYear$Folk" "valley" "LHeadYear$Valley;", Cond.fieldLink RX11 317 "HeadYear$Valley" "levels" "I", Cond.fieldLink RX11 319 "HeadYear$Valley" "families" "I", Cond.fieldLink RX11 94 "HeadYear" "lawCount" "I", Cond.fieldLink RX11 10 "HeadYear" "tape" "LHeadYear$Tape;", Cond.fieldLink RX11 109 "HeadYear$Tape" "length" "I", Cond.fieldLink RX11 222 "HeadYear$Folk" "years" "I", Cond.fieldLink RX11 98 "HeadYear" "heldLaw" "I", Cond.fieldLink RX11 67 "HeadYear" "buyings" "LHeadYear$Buyings;", Cond.fieldLink RX11 240 "HeadYear$Buyings" "count" "I", Cond.methodLink RX11 350 yX2_goneFamilies, Cond.instanceMethod yX2_goneFamilies, Cond.selects RX2 yX2_goneFamilies yX2_goneFamilies, Cond.initialized RX2, Cond.constant RX11 166 (-1000000)] ++ (u_ws RX11 TX11 16 ++ (u_ws RX2 TX2 12 ++ (u_ws RX9 TX9 10 ++ (u_ws RX8 TX8 4 ++ (u_ws RX0 TX0 5 ++ (w_X2_goneFamilies ++ ([]))))))))
theorem in_X11_count_X11 : ∀ w ∈ u_ws RX11 TX11 16, w ∈ w_X11_count := fun _ h => List.mem_cons_of_mem _ (List.mem_append_right _ (List.mem_append_left _ h))
theorem in_X11_count_X2 : ∀ w ∈ u_ws RX2 TX2 12, w ∈ w_X11_count := fun _ h => List.mem_cons_of_mem _ (List.mem_append_right _ (List.mem_append_right _ (List.mem_append_left _ h)))
theorem in_X11_count_X9 : ∀ w ∈ u_ws RX9 TX9 10, w ∈ w_X11_count := fun _ h => List.mem_cons_of_mem _ (List.mem_append_right _ (List.mem_append_right _ (List.mem_append_right _ (List.mem_append_left _ h))))
theorem in_X11_count_X8 : ∀ w ∈ u_ws RX8 TX8 4, w ∈ w_X11_count := fun _ h => List.mem_cons_of_mem _ (List.mem_append_right _ (List.mem_append_right _ (List.mem_append_right _ (List.mem_append_right _ (List.mem_append_left _ h)))))
theorem in_X11_count_X0 : ∀ w ∈ u_ws RX0 TX0 5, w ∈ w_X11_count := fun _ h => List.mem_cons_of_mem _ (List.mem_append_right _ (List.mem_append_right _ (List.mem_append_right _ (List.mem_append_right _ (List.mem_append_right _ (List.mem_append_left _ h))))))
theorem gg_X11_count_X2_goneFamilies : GoodIn w_X11_count w_X2_goneFamilies := goodIn_sub (fun _ h => List.mem_cons_of_mem _ (List.mem_append_right _ (List.mem_append_right _ (List.mem_append_right _ (List.mem_append_right _ (List.mem_append_right _ (List.mem_append_right _ (List.mem_append_left _ h)))))))) (by decide +kernel)
theorem g_X11_count_X2_goneFamilies_350 : GoodIn w_X11_count (wsV RX11 350 RX2 yX2_goneFamilies w_X2_goneFamilies) := goodIn_app (goodIn_of _ (by decide +kernel)) gg_X11_count_X2_goneFamilies
set_option maxHeartbeats 4000000 in
set_option maxRecDepth 100000 in
theorem c_X11_count (l : Launch) (E : py_E) (L : List Nat) (f : py_F) (sz : Nat) (h : Nat) (a : Int32) (hF : fr_H E L f h) : Met l yX11_count w_X11_count ({ frames := 2, cells := 0, slots := 0, locals := 43 }) (py_Pc E [.ref h, .int a] L f sz) (py_Qi E L f sz (fun r L1 f1 => r = sp_count a ∧ ∀ m, fr_M E L f m → fr_M E L1 f1 m)) 0 0 (va_A (va_pl L f) sz) := by
  refine Met.ofW (cc := cX11_count) (maxL := 2) (ret := (some .int)) (by decide) rfl ?_
  intro p e s m args below meth c s₁ B hml hv
  obtain ⟨rfl, rfl, hw⟩ := py_start hv
  have G : CallFix p m c cX11_count 2 s _ w_X11_count RX11 := ⟨B.exec, B.bytes, hml, findClass_of_methodNamed B.named, atoms_spec (ws := w_X11_count) B.pre⟩
  have hr := B.returns
  have hlk := B.notSynchronized
  have hl := lv_entry ([.ref h, .int a]) (n := 2) (Nat.le_of_ble_eq_true rfl)
  rw [lg_entry_eq]
  generalize (lg_sl ([.ref h, .int a]) ++ List.replicate (2 - (lg_sl ([.ref h, .int a])).length) Slot.unset).toArray = ls at hl ⊢
  have hl : lv_has ls 2 [(0, .ref h), (1, .int a)] := hl
  obtain ⟨tape, byt, vr, itm, dr, lr, dl, lws, nl, fo, va, tr, im, di, bu, se, mo, od, g, xd, xl, xf, xv, xi, xu, xs, hh, htape, hbyt, hvr, hdr, hxd, hlr, hdl, hxl, hfo, hxf, hf9, hf11, hva, hxv, hv8, hv9, hdi, hxi, hi2, hbu, hxu, hu3, hse, hxs⟩ := id hF
  have hMp : ∀ m, fr_M E L f m → fr_M E L f m := fun _ h => h
  refine lv_iload_n G.1 G.2.1 dX11_count_0 rfl (lv_at hl 1 rfl) ?_
  rcases py_sw8 a with e_sw | e_sw | e_sw | e_sw | e_sw | e_sw | e_sw | e_sw | e_sw
  · skip
    subst e_sw
    refine lv_tableIn (tgt := 48) G.1 G.2.1 dX11_count_1 (by decide) (by decide) rfl (by decide) ?_
    refine lv_aload_n G.1 G.2.1 dX11_count_48 rfl (lv_at hl 0 rfl) ?_
    refine py_get (C := RX11) (T := TX11) (N := 16) (k := 5) (v := .ref fo) G hw in_X11_count_X11 rfl hh (by decide) (by decide +kernel) rfl dX11_count_49 ?_
    refine py_get (C := RX2) (T := TX2) (N := 12) (k := 9) (v := .ref va) G hw in_X11_count_X2 rfl hfo (by decide) (by decide +kernel) hf9 dX11_count_52 ?_
    refine py_get (C := RX9) (T := TX9) (N := 10) (k := 8) (v := .int 0) G hw in_X11_count_X9 rfl hva (by decide) (by decide +kernel) hv8 dX11_count_55 ?_
    exact py_iret G hr rfl hlk hw ⟨by decide, hMp⟩ dX11_count_58
  · skip
    subst e_sw
    refine lv_tableIn (tgt := 59) G.1 G.2.1 dX11_count_1 (by decide) (by decide) rfl (by decide) ?_
    refine lv_aload_n G.1 G.2.1 dX11_count_59 rfl (lv_at hl 0 rfl) ?_
    refine py_get (C := RX11) (T := TX11) (N := 16) (k := 5) (v := .ref fo) G hw in_X11_count_X11 rfl hh (by decide) (by decide +kernel) rfl dX11_count_60 ?_
    refine py_get (C := RX2) (T := TX2) (N := 12) (k := 9) (v := .ref va) G hw in_X11_count_X2 rfl hfo (by decide) (by decide +kernel) hf9 dX11_count_63 ?_
    refine py_get (C := RX9) (T := TX9) (N := 10) (k := 9) (v := .int 0) G hw in_X11_count_X9 rfl hva (by decide) (by decide +kernel) hv9 dX11_count_66 ?_
    exact py_iret G hr rfl hlk hw ⟨by decide, hMp⟩ dX11_count_69
  · skip
    subst e_sw
    refine lv_tableIn (tgt := 70) G.1 G.2.1 dX11_count_1 (by decide) (by decide) rfl (by decide) ?_
    refine lv_aload_n G.1 G.2.1 dX11_count_70 rfl (lv_at hl 0 rfl) ?_
    refine py_get (C := RX11) (T := TX11) (N := 16) (k := 13) (v := .int 0) G hw in_X11_count_X11 rfl hh (by decide) (by decide +kernel) rfl dX11_count_71 ?_
    exact py_iret G hr rfl hlk hw ⟨by decide, hMp⟩ dX11_count_74
  · skip
    subst e_sw
    refine lv_tableIn (tgt := 75) G.1 G.2.1 dX11_count_1 (by decide) (by decide) rfl (by decide) ?_
    refine lv_aload_n G.1 G.2.1 dX11_count_75 rfl (lv_at hl 0 rfl) ?_
    refine py_get (C := RX11) (T := TX11) (N := 16) (k := 0) (v := .ref tape) G hw in_X11_count_X11 rfl hh (by decide) (by decide +kernel) rfl dX11_count_76 ?_
    refine py_get (C := RX8) (T := TX8) (N := 4) (k := 1) (v := .int 0) G hw in_X11_count_X8 rfl htape (by decide) (by decide +kernel) rfl dX11_count_79 ?_
    exact py_iret G hr rfl hlk hw ⟨by decide, hMp⟩ dX11_count_82
  · skip
    subst e_sw
    refine lv_tableIn (tgt := 83) G.1 G.2.1 dX11_count_1 (by decide) (by decide) rfl (by decide) ?_
    refine lv_aload_n G.1 G.2.1 dX11_count_83 rfl (lv_at hl 0 rfl) ?_
    refine py_get (C := RX11) (T := TX11) (N := 16) (k := 5) (v := .ref fo) G hw in_X11_count_X11 rfl hh (by decide) (by decide +kernel) rfl dX11_count_84 ?_
    refine py_get (C := RX2) (T := TX2) (N := 12) (k := 11) (v := .int 0) G hw in_X11_count_X2 rfl hfo (by decide) (by decide +kernel) hf11 dX11_count_87 ?_
    exact py_iret G hr rfl hlk hw ⟨by decide, hMp⟩ dX11_count_90
  · skip
    subst e_sw
    refine lv_tableIn (tgt := 91) G.1 G.2.1 dX11_count_1 (by decide) (by decide) rfl (by decide) ?_
    refine lv_aload_n G.1 G.2.1 dX11_count_91 rfl (lv_at hl 0 rfl) ?_
    refine py_get (C := RX11) (T := TX11) (N := 16) (k := 14) (v := .int (-1)) G hw in_X11_count_X11 rfl hh (by decide) (by decide +kernel) rfl dX11_count_92 ?_
    exact py_iret G hr rfl hlk hw ⟨by decide, hMp⟩ dX11_count_95
  · skip
    subst e_sw
    refine lv_tableIn (tgt := 96) G.1 G.2.1 dX11_count_1 (by decide) (by decide) rfl (by decide) ?_
    refine lv_aload_n G.1 G.2.1 dX11_count_96 rfl (lv_at hl 0 rfl) ?_
    refine py_get (C := RX11) (T := TX11) (N := 16) (k := 9) (v := .ref bu) G hw in_X11_count_X11 rfl hh (by decide) (by decide +kernel) rfl dX11_count_97 ?_
    refine py_get (C := RX0) (T := TX0) (N := 5) (k := 3) (v := .int 0) G hw in_X11_count_X0 rfl hbu (by decide) (by decide +kernel) hu3 dX11_count_100 ?_
    exact py_iret G hr rfl hlk hw ⟨by decide, hMp⟩ dX11_count_103
  · skip
    subst e_sw
    refine lv_tableIn (tgt := 104) G.1 G.2.1 dX11_count_1 (by decide) (by decide) rfl (by decide) ?_
    refine lv_aload_n G.1 G.2.1 dX11_count_104 rfl (lv_at hl 0 rfl) ?_
    refine py_get (C := RX11) (T := TX11) (N := 16) (k := 5) (v := .ref fo) G hw in_X11_count_X11 rfl hh (by decide) (by decide +kernel) rfl dX11_count_105 ?_
    refine py_calli hw (va_runV (As := []) (rest := []) G (c_X2_goneFamilies l E L f s.heap.size fo va xf xv hfo hxf hf9 hva hxv hv9) (cwV 0 G.2.2.2.2 g_X11_count_X2_goneFamilies_350 rfl rfl rfl (by decide +kernel) ⟨(Nat.le_of_ble_eq_true rfl), (Nat.le_of_ble_eq_true rfl)⟩) (py_preV hw (C := RX2) (T := TX2) (N := 12) rfl hfo) rfl rfl hl.1 rfl (lv_room (Nat.le_of_ble_eq_true rfl)) dX11_count_108 ⟨(Nat.le_of_ble_eq_true rfl), (Nat.le_of_ble_eq_true rfl)⟩) (fun r_5 L_1 f_2 H_3 locs hp_4 hw => ?_)
    obtain ⟨rfl, rfl, rfl⟩ := hp_4
    exact py_iret G hr rfl hlk hw ⟨by decide, hMp⟩ dX11_count_111
  · skip
    refine lv_tableOut (tgt := 112) G.1 G.2.1 dX11_count_1 e_sw (by decide) ?_
    refine lv_ldc (v := (-1000000)) G.1 G.2.1 G.2.2.2.1 (G.2.2.2.2 (Cond.constant RX11 166 (-1000000)) (by decide +kernel)) dX11_count_112 ?_
    exact py_iret G hr rfl hlk hw ⟨(by have n0 := py_out8 e_sw; simp [sp_count, n0]), hMp⟩ dX11_count_114

def w_X8_next : List Cond := .code yX8_next cX8_next 1 (some .int) :: ([Cond.fieldLink RX8 17 "HeadYear$Tape" "at" "I", Cond.fieldLink RX8 13 "HeadYear$Tape" "length" "I"] ++ (u_ws RX8 TX8 4 ++ ([])))
theorem in_X8_next_X8 : ∀ w ∈ u_ws RX8 TX8 4, w ∈ w_X8_next := fun _ h => List.mem_cons_of_mem _ (List.mem_append_right _ (List.mem_append_left _ h))
set_option maxHeartbeats 4000000 in
set_option maxRecDepth 100000 in
theorem c_X8_next (l : Launch) (E : py_E) (L : List Nat) (f : py_F) (sz : Nat) (h byt : Nat) (hh : py_at L f h (.inr (8, [.ref byt, .int 0, .int 0, .int 0]))) : Met l yX8_next w_X8_next ({ frames := 0, cells := 0, slots := 0, locals := 0 }) (py_Pc E [.ref h] L f sz) (py_Qi E L f sz (fun r L1 f1 => r = 0 ∧ L = L1 ∧ f = f1)) 0 0 (va_A (va_pl L f) sz) := by
  refine Met.ofW (cc := cX8_next) (maxL := 1) (ret := (some .int)) (by decide) rfl ?_
  intro p e s m args below meth c s₁ B hml hv
  obtain ⟨rfl, rfl, hw⟩ := py_start hv
  have G : CallFix p m c cX8_next 1 s _ w_X8_next RX8 := ⟨B.exec, B.bytes, hml, findClass_of_methodNamed B.named, atoms_spec (ws := w_X8_next) B.pre⟩
  have hr := B.returns
  have hlk := B.notSynchronized
  have hl := lv_entry ([.ref h]) (n := 1) (Nat.le_of_ble_eq_true rfl)
  rw [lg_entry_eq]
  generalize (lg_sl ([.ref h]) ++ List.replicate (1 - (lg_sl ([.ref h])).length) Slot.unset).toArray = ls at hl ⊢
  have hl : lv_has ls 1 [(0, .ref h)] := hl
  refine lv_aload_n G.1 G.2.1 dX8_next_0 rfl (lv_at hl 0 rfl) ?_
  refine py_get (C := RX8) (T := TX8) (N := 4) (k := 2) (v := .int 0) G hw in_X8_next_X8 rfl hh (by decide) (by decide +kernel) rfl dX8_next_1 ?_
  refine lv_aload_n G.1 G.2.1 dX8_next_4 rfl (lv_at hl 0 rfl) ?_
  refine py_get (C := RX8) (T := TX8) (N := 4) (k := 1) (v := .int 0) G hw in_X8_next_X8 rfl hh (by decide) (by decide +kernel) rfl dX8_next_5 ?_
  refine lv_icmp_ge (tgt := 38) G.1 G.2.1 dX8_next_8 (by decide) (fun c_1 => ?_) (fun c_1 => ?_)
  · skip
    refine lv_aload_n G.1 G.2.1 dX8_next_38 rfl (lv_at hl 0 rfl) ?_
    refine py_get (C := RX8) (T := TX8) (N := 4) (k := 2) (v := .int 0) G hw in_X8_next_X8 rfl hh (by decide) (by decide +kernel) rfl dX8_next_39 ?_
    refine lv_aload_n G.1 G.2.1 dX8_next_42 rfl (lv_at hl 0 rfl) ?_
    refine py_get (C := RX8) (T := TX8) (N := 4) (k := 1) (v := .int 0) G hw in_X8_next_X8 rfl hh (by decide) (by decide +kernel) rfl dX8_next_43 ?_
    refine lv_icmp_ge (tgt := 61) G.1 G.2.1 dX8_next_46 (by decide) (fun c_2 => ?_) (fun c_2 => ?_)
    · skip
      refine lv_iconst (v := 0) G.1 G.2.1 dX8_next_61 (by decide) ?_
      exact py_iret G hr rfl hlk hw ⟨rfl, rfl, rfl⟩ dX8_next_62
    · skip
      exact absurd c_2 (by decide)
  · skip
    exact absurd c_1 (by decide)

def w_X8_take : List Cond := .code yX8_take cX8_take 2 (some .boolean) :: ([Cond.methodLink RX8 23 yX8_next, Cond.instanceMethod yX8_next, Cond.selects RX8 yX8_next yX8_next, Cond.initialized RX8] ++ (w_X8_next ++ ([])))
theorem gg_X8_take_X8_next : GoodIn w_X8_take w_X8_next := goodIn_sub (fun _ h => List.mem_cons_of_mem _ (List.mem_append_right _ (List.mem_append_left _ h))) (by decide +kernel)
theorem g_X8_take_X8_next_23 : GoodIn w_X8_take (wsV RX8 23 RX8 yX8_next w_X8_next) := goodIn_app (goodIn_of _ (by decide +kernel)) gg_X8_take_X8_next
set_option maxHeartbeats 4000000 in
set_option maxRecDepth 100000 in
theorem c_X8_take (l : Launch) (E : py_E) (L : List Nat) (f : py_F) (sz : Nat) (h : Nat) (sg : Int32) (byt : Nat) (hh : py_at L f h (.inr (8, [.ref byt, .int 0, .int 0, .int 0]))) (hsg : ¬ 0 = sg) : Met l yX8_take w_X8_take ({ frames := 1, cells := 0, slots := 0, locals := 20 }) (py_Pc E [.ref h, .int sg] L f sz) (py_Qi E L f sz (fun r L1 f1 => r = 0 ∧ L = L1 ∧ f = f1)) 0 0 (va_A (va_pl L f) sz) := by
  refine Met.ofW (cc := cX8_take) (maxL := 2) (ret := (some .boolean)) (by decide) rfl ?_
  intro p e s m args below meth c s₁ B hml hv
  obtain ⟨rfl, rfl, hw⟩ := py_start hv
  have G : CallFix p m c cX8_take 2 s _ w_X8_take RX8 := ⟨B.exec, B.bytes, hml, findClass_of_methodNamed B.named, atoms_spec (ws := w_X8_take) B.pre⟩
  have hr := B.returns
  have hlk := B.notSynchronized
  have hl := lv_entry ([.ref h, .int sg]) (n := 2) (Nat.le_of_ble_eq_true rfl)
  rw [lg_entry_eq]
  generalize (lg_sl ([.ref h, .int sg]) ++ List.replicate (2 - (lg_sl ([.ref h, .int sg])).length) Slot.unset).toArray = ls at hl ⊢
  have hl : lv_has ls 2 [(0, .ref h), (1, .int sg)] := hl
  refine lv_aload_n G.1 G.2.1 dX8_take_0 rfl (lv_at hl 0 rfl) ?_
  refine py_calli hw (va_runV (As := []) (rest := []) G (c_X8_next l E L f s.heap.size h byt hh) (cwV 0 G.2.2.2.2 g_X8_take_X8_next_23 rfl rfl rfl (by decide +kernel) ⟨(Nat.le_of_ble_eq_true rfl), (Nat.le_of_ble_eq_true rfl)⟩) (py_preV hw (C := RX8) (T := TX8) (N := 4) rfl hh) rfl rfl hl.1 rfl (lv_room (Nat.le_of_ble_eq_true rfl)) dX8_take_1 ⟨(Nat.le_of_ble_eq_true rfl), (Nat.le_of_ble_eq_true rfl)⟩) (fun r_5 L_1 f_2 H_3 locs hp_4 hw => ?_)
  obtain ⟨rfl, rfl, rfl⟩ := hp_4
  refine lv_iload_n G.1 G.2.1 dX8_take_4 rfl (lv_at hl 1 rfl) ?_
  refine lv_icmp_eq (tgt := 10) G.1 G.2.1 dX8_take_5 (by decide) (fun c_6 => ?_) (fun c_6 => ?_)
  · skip
    exact absurd c_6 hsg
  · skip
    refine lv_iconst (v := 0) G.1 G.2.1 dX8_take_8 (by decide) ?_
    exact py_iret G hr rfl hlk hw ⟨rfl, rfl, rfl⟩ dX8_take_9

def w_X10_readClause : List Cond := .code yX10_readClause cX10_readClause 4 (some .boolean) :: ([Cond.methodLink RX10 39 yX8_next, Cond.instanceMethod yX8_next, Cond.selects RX8 yX8_next yX8_next, Cond.initialized RX8] ++ (w_X8_next ++ ([])))
theorem gg_X10_readClause_X8_next : GoodIn w_X10_readClause w_X8_next := goodIn_sub (fun _ h => List.mem_cons_of_mem _ (List.mem_append_right _ (List.mem_append_left _ h))) (by decide +kernel)
theorem g_X10_readClause_X8_next_39 : GoodIn w_X10_readClause (wsV RX10 39 RX8 yX8_next w_X8_next) := goodIn_app (goodIn_of _ (by decide +kernel)) gg_X10_readClause_X8_next
set_option maxHeartbeats 4000000 in
set_option maxRecDepth 100000 in
theorem c_X10_readClause (l : Launch) (E : py_E) (L : List Nat) (f : py_F) (sz : Nat) (h tape itm dr byt : Nat) (hh : py_at L f h (.inr (10, [.ref itm, .ref dr]))) (ht : py_at L f tape (.inr (8, [.ref byt, .int 0, .int 0, .int 0]))) : Met l yX10_readClause w_X10_readClause ({ frames := 1, cells := 0, slots := 0, locals := 20 }) (py_Pc E [.ref h, .ref tape] L f sz) (py_Qi E L f sz (fun r L1 f1 => r = 0 ∧ L = L1 ∧ f = f1)) 0 0 (va_A (va_pl L f) sz) := by
  refine Met.ofW (cc := cX10_readClause) (maxL := 4) (ret := (some .boolean)) (by decide) rfl ?_
  intro p e s m args below meth c s₁ B hml hv
  obtain ⟨rfl, rfl, hw⟩ := py_start hv
  have G : CallFix p m c cX10_readClause 4 s _ w_X10_readClause RX10 := ⟨B.exec, B.bytes, hml, findClass_of_methodNamed B.named, atoms_spec (ws := w_X10_readClause) B.pre⟩
  have hr := B.returns
  have hlk := B.notSynchronized
  have hl := lv_entry ([.ref h, .ref tape]) (n := 4) (Nat.le_of_ble_eq_true rfl)
  rw [lg_entry_eq]
  generalize (lg_sl ([.ref h, .ref tape]) ++ List.replicate (4 - (lg_sl ([.ref h, .ref tape])).length) Slot.unset).toArray = ls at hl ⊢
  have hl : lv_has ls 4 [(0, .ref h), (1, .ref tape)] := hl
  refine lv_aload_n G.1 G.2.1 dX10_readClause_0 rfl (lv_at hl 1 rfl) ?_
  refine py_calli hw (va_runV (As := []) (rest := []) G (c_X8_next l E L f s.heap.size tape byt ht) (cwV 0 G.2.2.2.2 g_X10_readClause_X8_next_39 rfl rfl rfl (by decide +kernel) ⟨(Nat.le_of_ble_eq_true rfl), (Nat.le_of_ble_eq_true rfl)⟩) (py_preV hw (C := RX8) (T := TX8) (N := 4) rfl ht) rfl rfl hl.1 rfl (lv_room (Nat.le_of_ble_eq_true rfl)) dX10_readClause_1 ⟨(Nat.le_of_ble_eq_true rfl), (Nat.le_of_ble_eq_true rfl)⟩) (fun r_5 L_1 f_2 H_3 locs hp_4 hw => ?_)
  obtain ⟨rfl, rfl, rfl⟩ := hp_4
  refine lv_istore_n (lv' := [(2, .int 0), (0, .ref h), (1, .ref tape)]) G.1 G.2.1 dX10_readClause_4 rfl hl (by decide) rfl (fun ls hl => ?_)
  refine lv_iload_n G.1 G.2.1 dX10_readClause_5 rfl (lv_at hl 0 rfl) ?_
  refine lv_bipush (v := 108) G.1 G.2.1 dX10_readClause_6 (by decide) ?_
  refine lv_icmp_ne (tgt := 53) G.1 G.2.1 dX10_readClause_8 (by decide) (fun c_6 => ?_) (fun c_6 => ?_)
  · skip
    refine lv_iload_n G.1 G.2.1 dX10_readClause_53 rfl (lv_at hl 0 rfl) ?_
    refine lv_bipush (v := 107) G.1 G.2.1 dX10_readClause_54 (by decide) ?_
    refine lv_icmp_ne (tgt := 101) G.1 G.2.1 dX10_readClause_56 (by decide) (fun c_7 => ?_) (fun c_7 => ?_)
    · skip
      refine lv_iconst (v := 0) G.1 G.2.1 dX10_readClause_101 (by decide) ?_
      exact py_iret G hr rfl hlk hw ⟨rfl, rfl, rfl⟩ dX10_readClause_102
    · skip
      exact absurd c_7 (by decide)
  · skip
    exact absurd c_6 (by decide)

def w_X9_clear : List Cond := .code yX9_clear cX9_clear 1 none :: ([Cond.fieldLink RX9 34 "HeadYear$Valley" "levels" "I", Cond.fieldLink RX9 38 "HeadYear$Valley" "families" "I"] ++ (u_ws RX9 TX9 10 ++ ([])))
theorem in_X9_clear_X9 : ∀ w ∈ u_ws RX9 TX9 10, w ∈ w_X9_clear := fun _ h => List.mem_cons_of_mem _ (List.mem_append_right _ (List.mem_append_left _ h))
set_option maxHeartbeats 4000000 in
set_option maxRecDepth 100000 in
theorem c_X9_clear (l : Launch) (E : py_E) (L : List Nat) (f : py_F) (sz : Nat) (h : Nat) (xd : List Value) (hh : py_at L f h (.inr (9, xd))) (hx : xd.length = 10) : Met l yX9_clear w_X9_clear ({ frames := 0, cells := 0, slots := 0, locals := 0 }) (py_Pc E [.ref h] L f sz) (py_Qv E L f sz (fun L1 f1 => ∃ xs : List Value, py_at L1 f1 h (.inr (9, xs)) ∧ xs.length = 10 ∧ (∀ m, fr_M E L f m → fr_M E L1 f1 m) ∧ py_ext L f L1 f1 h)) 0 0 (va_A (va_pl L f) sz) := by
  refine Met.ofW (cc := cX9_clear) (maxL := 1) (ret := none) (by decide) rfl ?_
  intro p e s m args below meth c s₁ B hml hv
  obtain ⟨rfl, rfl, hw⟩ := py_start hv
  have G : CallFix p m c cX9_clear 1 s _ w_X9_clear RX9 := ⟨B.exec, B.bytes, hml, findClass_of_methodNamed B.named, atoms_spec (ws := w_X9_clear) B.pre⟩
  have hr := B.returns
  have hlk := B.notSynchronized
  have hl := lv_entry ([.ref h]) (n := 1) (Nat.le_of_ble_eq_true rfl)
  rw [lg_entry_eq]
  generalize (lg_sl ([.ref h]) ++ List.replicate (1 - (lg_sl ([.ref h])).length) Slot.unset).toArray = ls at hl ⊢
  have hl : lv_has ls 1 [(0, .ref h)] := hl
  have hMp : ∀ m, fr_M E L f m → fr_M E L f m := fun _ h => h
  refine lv_aload_n G.1 G.2.1 dX9_clear_0 rfl (lv_at hl 0 rfl) ?_
  refine lv_iconst (v := 0) G.1 G.2.1 dX9_clear_1 (by decide) ?_
  refine py_put (C := RX9) (T := TX9) (N := 10) (k := 8) (v := .int 0) (fs' := xd.set 8 (.int 0)) (ty0 := tyX9) G hw tyX9_ok nmX9 in_X9_clear_X9 rfl hh (by decide) (by decide +kernel) rfl rfl rfl rfl (py_len hx (by decide)) rfl dX9_clear_2 (fun f_1 H_2 locs h_3 x_4 hw => ?_)
  obtain ⟨xs_5, exs_5⟩ : ∃ y, y = xd.set 8 (.int 0) := ⟨_, rfl⟩
  rw [← exs_5] at h_3
  have hl_6 : xs_5.length = 10 := by rw [exs_5, List.length_set]; exact hx
  have hp_7 : xs_5[8]? = some (.int 0) := by rw [exs_5, List.getElem?_set_self (by rw [hx]; decide)]
  have hMp : ∀ m, fr_M E L f m → fr_M E L f_1 m := fun m h => fr_M_obj (hMp m h) hh (by decide) x_4
  refine lv_aload_n G.1 G.2.1 dX9_clear_5 rfl (lv_at hl 0 rfl) ?_
  refine lv_iconst (v := 0) G.1 G.2.1 dX9_clear_6 (by decide) ?_
  refine py_put (C := RX9) (T := TX9) (N := 10) (k := 9) (v := .int 0) (fs' := xs_5.set 9 (.int 0)) (ty0 := tyX9) G hw tyX9_ok nmX9 in_X9_clear_X9 rfl h_3 (by decide) (by decide +kernel) rfl rfl rfl rfl (py_len hl_6 (by decide)) rfl dX9_clear_7 (fun f_8 H_9 locs h_10 x_11 hw => ?_)
  obtain ⟨xs_12, exs_12⟩ : ∃ y, y = xs_5.set 9 (.int 0) := ⟨_, rfl⟩
  rw [← exs_12] at h_10
  have hl_13 : xs_12.length = 10 := by rw [exs_12, List.length_set]; exact hl_6
  have hp_14 : xs_12[8]? = some (.int 0) := by rw [exs_12, List.getElem?_set_ne (by decide)]; exact hp_7
  have hp_15 : xs_12[9]? = some (.int 0) := by rw [exs_12, List.getElem?_set_self (by rw [hl_6]; decide)]
  have hMp : ∀ m, fr_M E L f m → fr_M E L f_8 m := fun m h => fr_M_obj (hMp m h) h_3 (by decide) x_11
  have xt_16 : py_ext L f L f_8 h := fun b hb hn => by
    obtain ⟨m1, e1⟩ := x_4 b hb hn
    obtain ⟨m2, e2⟩ := x_11 b m1 hn
    exact ⟨m2, e2.trans (e1.trans (rfl))⟩
  exact py_vret G hr hlk hw ⟨_, h_10, hl_13, hMp, xt_16⟩ dX9_clear_10

def w_X10_faultOf : List Cond := .code yX10_faultOf cX10_faultOf 4 (some .int) :: ([Cond.fieldLink RX10 22 "HeadYear$Tape" "at" "I", Cond.fieldLink RX10 18 "HeadYear$ValleyReader" "draft" "LHeadYear$Valley;", Cond.methodLink RX10 28 yX9_clear, Cond.instanceMethod yX9_clear, Cond.selects RX9 yX9_clear yX9_clear, Cond.initialized RX9, Cond.methodLink RX10 31 yX10_readClause, Cond.instanceMethod yX10_readClause, Cond.selects RX10 yX10_readClause yX10_readClause, Cond.initialized RX10] ++ (u_ws RX8 TX8 4 ++ (u_ws RX10 TX10 2 ++ (w_X9_clear ++ (w_X10_readClause ++ ([]))))))
theorem in_X10_faultOf_X8 : ∀ w ∈ u_ws RX8 TX8 4, w ∈ w_X10_faultOf := fun _ h => List.mem_cons_of_mem _ (List.mem_append_right _ (List.mem_append_left _ h))
theorem in_X10_faultOf_X10 : ∀ w ∈ u_ws RX10 TX10 2, w ∈ w_X10_faultOf := fun _ h => List.mem_cons_of_mem _ (List.mem_append_right _ (List.mem_append_right _ (List.mem_append_left _ h)))
theorem gg_X10_faultOf_X9_clear : GoodIn w_X10_faultOf w_X9_clear := goodIn_sub (fun _ h => List.mem_cons_of_mem _ (List.mem_append_right _ (List.mem_append_right _ (List.mem_append_right _ (List.mem_append_left _ h))))) (by decide +kernel)
theorem gg_X10_faultOf_X10_readClause : GoodIn w_X10_faultOf w_X10_readClause := goodIn_sub (fun _ h => List.mem_cons_of_mem _ (List.mem_append_right _ (List.mem_append_right _ (List.mem_append_right _ (List.mem_append_right _ (List.mem_append_left _ h)))))) (by decide +kernel)
theorem g_X10_faultOf_X10_readClause_31 : GoodIn w_X10_faultOf (wsV RX10 31 RX10 yX10_readClause w_X10_readClause) := goodIn_app (goodIn_of _ (by decide +kernel)) gg_X10_faultOf_X10_readClause
theorem g_X10_faultOf_X9_clear_28 : GoodIn w_X10_faultOf (wsV RX10 28 RX9 yX9_clear w_X9_clear) := goodIn_app (goodIn_of _ (by decide +kernel)) gg_X10_faultOf_X9_clear
set_option maxHeartbeats 4000000 in
set_option maxRecDepth 100000 in
theorem c_X10_faultOf (l : Launch) (E : py_E) (L : List Nat) (f : py_F) (sz : Nat) (h tape itm dr byt : Nat) (xd : List Value) (hh : py_at L f h (.inr (10, [.ref itm, .ref dr]))) (ht : py_at L f tape (.inr (8, [.ref byt, .int 0, .int 0, .int 0]))) (hd : py_at L f dr (.inr (9, xd))) (hx : xd.length = 10) : Met l yX10_faultOf w_X10_faultOf ({ frames := 2, cells := 0, slots := 0, locals := 43 }) (py_Pc E [.ref h, .ref tape] L f sz) (py_Qi E L f sz (fun r L1 f1 => r = 0 ∧ ∀ m, fr_M E L f m → fr_M E L1 f1 m)) 0 0 (va_A (va_pl L f) sz) := by
  refine Met.ofW (cc := cX10_faultOf) (maxL := 4) (ret := (some .int)) (by decide) rfl ?_
  intro p e s m args below meth c s₁ B hml hv
  obtain ⟨rfl, rfl, hw⟩ := py_start hv
  have G : CallFix p m c cX10_faultOf 4 s _ w_X10_faultOf RX10 := ⟨B.exec, B.bytes, hml, findClass_of_methodNamed B.named, atoms_spec (ws := w_X10_faultOf) B.pre⟩
  have hr := B.returns
  have hlk := B.notSynchronized
  have hl := lv_entry ([.ref h, .ref tape]) (n := 4) (Nat.le_of_ble_eq_true rfl)
  rw [lg_entry_eq]
  generalize (lg_sl ([.ref h, .ref tape]) ++ List.replicate (4 - (lg_sl ([.ref h, .ref tape])).length) Slot.unset).toArray = ls at hl ⊢
  have hl : lv_has ls 4 [(0, .ref h), (1, .ref tape)] := hl
  have hMp : ∀ m, fr_M E L f m → fr_M E L f m := fun _ h => h
  refine lv_aload_n G.1 G.2.1 dX10_faultOf_0 rfl (lv_at hl 1 rfl) ?_
  refine lv_iconst (v := 0) G.1 G.2.1 dX10_faultOf_1 (by decide) ?_
  refine py_put (C := RX8) (T := TX8) (N := 4) (k := 2) (v := .int 0) (fs' := [.ref byt, .int 0, .int 0, .int 0]) (ty0 := tyX8) G hw tyX8_ok nmX8 in_X10_faultOf_X8 rfl ht (by decide) (by decide +kernel) rfl rfl rfl rfl (Nat.le_of_ble_eq_true rfl) rfl dX10_faultOf_2 (fun f_1 H_2 locs h_3 x_4 hw => ?_)
  have hMp : ∀ m, fr_M E L f m → fr_M E L f_1 m := fun m h => fr_M_obj (hMp m h) ht (by decide) x_4
  have hh := hh.ext x_4 (py_ne_kind hh ht (by decide))
  have hd := hd.ext x_4 (py_ne_kind hd ht (by decide))
  refine lv_aload_n G.1 G.2.1 dX10_faultOf_5 rfl (lv_at hl 0 rfl) ?_
  refine py_get (C := RX10) (T := TX10) (N := 2) (k := 1) (v := .ref dr) G hw in_X10_faultOf_X10 rfl hh (by decide) (by decide +kernel) rfl dX10_faultOf_6 ?_
  refine py_callv hw (va_runV (As := []) (rest := []) G (c_X9_clear l E L f_1 H_2.size dr xd hd hx) (cwV 0 G.2.2.2.2 g_X10_faultOf_X9_clear_28 rfl rfl rfl (by decide +kernel) ⟨(Nat.le_of_ble_eq_true rfl), (Nat.le_of_ble_eq_true rfl)⟩) (py_preV hw (C := RX9) (T := TX9) (N := 10) rfl hd) rfl rfl hl.1 rfl (lv_room (Nat.le_of_ble_eq_true rfl)) dX10_faultOf_9 ⟨(Nat.le_of_ble_eq_true rfl), (Nat.le_of_ble_eq_true rfl)⟩) (fun L_5 f_6 H_7 locs hp_8 hw => ?_)
  obtain ⟨xd_10, h_11, hl_12, hm_13, x_14⟩ := hp_8
  have hh := hh.ext x_14 (py_ne_kind hh hd (by decide))
  have h_3 := h_3.ext x_14 (py_ne_kind h_3 hd (by decide))
  have hMp : ∀ m, fr_M E L f m → fr_M E L_5 f_6 m := fun m h => hm_13 m (hMp m h)
  refine lv_aload_n G.1 G.2.1 dX10_faultOf_12 rfl (lv_at hl 0 rfl) ?_
  refine lv_aload_n G.1 G.2.1 dX10_faultOf_13 rfl (lv_at hl 1 rfl) ?_
  refine py_calli hw (va_runV (As := [.ref tape]) (rest := []) G (c_X10_readClause l E L_5 f_6 H_7.size h tape itm dr byt hh h_3) (cwV 1 G.2.2.2.2 g_X10_faultOf_X10_readClause_31 rfl rfl rfl (by decide +kernel) ⟨(Nat.le_of_ble_eq_true rfl), (Nat.le_of_ble_eq_true rfl)⟩) (py_preV hw (C := RX10) (T := TX10) (N := 2) rfl hh) rfl rfl hl.1 rfl (lv_room (Nat.le_of_ble_eq_true rfl)) dX10_faultOf_14 ⟨(Nat.le_of_ble_eq_true rfl), (Nat.le_of_ble_eq_true rfl)⟩) (fun r_19 L_15 f_16 H_17 locs hp_18 hw => ?_)
  obtain ⟨rfl, rfl, rfl⟩ := hp_18
  refine lv_istore_n (lv' := [(2, .int 0), (0, .ref h), (1, .ref tape)]) G.1 G.2.1 dX10_faultOf_17 rfl hl (by decide) rfl (fun ls hl => ?_)
  refine lv_iconst (v := 0) G.1 G.2.1 dX10_faultOf_18 (by decide) ?_
  refine lv_istore_n (lv' := [(3, .int 0), (2, .int 0), (0, .ref h), (1, .ref tape)]) G.1 G.2.1 dX10_faultOf_19 rfl hl (by decide) rfl (fun ls hl => ?_)
  refine lv_iload_n G.1 G.2.1 dX10_faultOf_20 rfl (lv_at hl 0 rfl) ?_
  refine lv_sipush (v := 160) G.1 G.2.1 dX10_faultOf_21 (by decide) ?_
  refine lv_icmp_ge (tgt := 52) G.1 G.2.1 dX10_faultOf_24 (by decide) (fun c_20 => ?_) (fun c_20 => ?_)
  · skip
    exact absurd c_20 (by decide)
  · skip
    refine lv_iload_n G.1 G.2.1 dX10_faultOf_27 rfl (lv_at hl 1 rfl) ?_
    refine lv_if_eq (tgt := 52) G.1 G.2.1 dX10_faultOf_28 (by decide) (fun c_21 => ?_) (fun c_21 => ?_)
    · skip
      refine lv_iload_n G.1 G.2.1 dX10_faultOf_52 rfl (lv_at hl 1 rfl) ?_
      refine lv_if_eq (tgt := 63) G.1 G.2.1 dX10_faultOf_53 (by decide) (fun c_22 => ?_) (fun c_22 => ?_)
      · skip
        refine lv_aload_n G.1 G.2.1 dX10_faultOf_63 rfl (lv_at hl 3 rfl) ?_
        refine py_get (C := RX8) (T := TX8) (N := 4) (k := 2) (v := .int 0) G hw in_X10_faultOf_X8 rfl h_3 (by decide) (by decide +kernel) rfl dX10_faultOf_64 ?_
        exact py_iret G hr rfl hlk hw ⟨rfl, hMp⟩ dX10_faultOf_67
      · skip
        exact absurd c_22 (by decide)
    · skip
      exact absurd c_21 (by decide)

def w_X4_readClause : List Cond := .code yX4_readClause cX4_readClause 5 (some .boolean) :: ([Cond.methodLink RX4 31 yX8_take, Cond.instanceMethod yX8_take, Cond.selects RX8 yX8_take yX8_take, Cond.initialized RX8] ++ (w_X8_take ++ ([])))
theorem gg_X4_readClause_X8_take : GoodIn w_X4_readClause w_X8_take := goodIn_sub (fun _ h => List.mem_cons_of_mem _ (List.mem_append_right _ (List.mem_append_left _ h))) (by decide +kernel)
theorem g_X4_readClause_X8_take_31 : GoodIn w_X4_readClause (wsV RX4 31 RX8 yX8_take w_X8_take) := goodIn_app (goodIn_of _ (by decide +kernel)) gg_X4_readClause_X8_take
set_option maxHeartbeats 4000000 in
set_option maxRecDepth 100000 in
theorem c_X4_readClause (l : Launch) (E : py_E) (L : List Nat) (f : py_F) (sz : Nat) (h tape dl byt : Nat) (hh : py_at L f h (.inr (4, [.ref dl]))) (ht : py_at L f tape (.inr (8, [.ref byt, .int 0, .int 0, .int 0]))) : Met l yX4_readClause w_X4_readClause ({ frames := 2, cells := 0, slots := 0, locals := 41 }) (py_Pc E [.ref h, .ref tape] L f sz) (py_Qi E L f sz (fun r L1 f1 => r = 0 ∧ L = L1 ∧ f = f1)) 0 0 (va_A (va_pl L f) sz) := by
  refine Met.ofW (cc := cX4_readClause) (maxL := 5) (ret := (some .boolean)) (by decide) rfl ?_
  intro p e s m args below meth c s₁ B hml hv
  obtain ⟨rfl, rfl, hw⟩ := py_start hv
  have G : CallFix p m c cX4_readClause 5 s _ w_X4_readClause RX4 := ⟨B.exec, B.bytes, hml, findClass_of_methodNamed B.named, atoms_spec (ws := w_X4_readClause) B.pre⟩
  have hr := B.returns
  have hlk := B.notSynchronized
  have hl := lv_entry ([.ref h, .ref tape]) (n := 5) (Nat.le_of_ble_eq_true rfl)
  rw [lg_entry_eq]
  generalize (lg_sl ([.ref h, .ref tape]) ++ List.replicate (5 - (lg_sl ([.ref h, .ref tape])).length) Slot.unset).toArray = ls at hl ⊢
  have hl : lv_has ls 5 [(0, .ref h), (1, .ref tape)] := hl
  refine lv_aload_n G.1 G.2.1 dX4_readClause_0 rfl (lv_at hl 1 rfl) ?_
  refine lv_bipush (v := 121) G.1 G.2.1 dX4_readClause_1 (by decide) ?_
  refine py_calli hw (va_runV (As := [.int 121]) (rest := []) G (c_X8_take l E L f s.heap.size tape 121 byt ht (by decide)) (cwV 1 G.2.2.2.2 g_X4_readClause_X8_take_31 rfl rfl rfl (by decide +kernel) ⟨(Nat.le_of_ble_eq_true rfl), (Nat.le_of_ble_eq_true rfl)⟩) (py_preV hw (C := RX8) (T := TX8) (N := 4) rfl ht) rfl rfl hl.1 rfl (lv_room (Nat.le_of_ble_eq_true rfl)) dX4_readClause_3 ⟨(Nat.le_of_ble_eq_true rfl), (Nat.le_of_ble_eq_true rfl)⟩) (fun r_5 L_1 f_2 H_3 locs hp_4 hw => ?_)
  obtain ⟨rfl, rfl, rfl⟩ := hp_4
  refine lv_if_eq (tgt := 18) G.1 G.2.1 dX4_readClause_6 (by decide) (fun c_6 => ?_) (fun c_6 => ?_)
  · skip
    refine lv_iconst (v := 0) G.1 G.2.1 dX4_readClause_18 (by decide) ?_
    exact py_iret G hr rfl hlk hw ⟨rfl, rfl, rfl⟩ dX4_readClause_19
  · skip
    exact absurd c_6 (by decide)

def w_X4_faultOf : List Cond := .code yX4_faultOf cX4_faultOf 4 (some .int) :: ([Cond.fieldLink RX4 18 "HeadYear$Tape" "at" "I", Cond.fieldLink RX4 12 "HeadYear$LawReader" "draft" "LHeadYear$Law;", Cond.fieldLink RX4 24 "HeadYear$Law" "length" "I", Cond.methodLink RX4 27 yX4_readClause, Cond.instanceMethod yX4_readClause, Cond.selects RX4 yX4_readClause yX4_readClause, Cond.initialized RX4] ++ (u_ws RX8 TX8 4 ++ (u_ws RX4 TX4 1 ++ (u_ws RX3 TX3 3 ++ (w_X4_readClause ++ ([]))))))
theorem in_X4_faultOf_X8 : ∀ w ∈ u_ws RX8 TX8 4, w ∈ w_X4_faultOf := fun _ h => List.mem_cons_of_mem _ (List.mem_append_right _ (List.mem_append_left _ h))
theorem in_X4_faultOf_X4 : ∀ w ∈ u_ws RX4 TX4 1, w ∈ w_X4_faultOf := fun _ h => List.mem_cons_of_mem _ (List.mem_append_right _ (List.mem_append_right _ (List.mem_append_left _ h)))
theorem in_X4_faultOf_X3 : ∀ w ∈ u_ws RX3 TX3 3, w ∈ w_X4_faultOf := fun _ h => List.mem_cons_of_mem _ (List.mem_append_right _ (List.mem_append_right _ (List.mem_append_right _ (List.mem_append_left _ h))))
theorem gg_X4_faultOf_X4_readClause : GoodIn w_X4_faultOf w_X4_readClause := goodIn_sub (fun _ h => List.mem_cons_of_mem _ (List.mem_append_right _ (List.mem_append_right _ (List.mem_append_right _ (List.mem_append_right _ (List.mem_append_left _ h)))))) (by decide +kernel)
theorem g_X4_faultOf_X4_readClause_27 : GoodIn w_X4_faultOf (wsV RX4 27 RX4 yX4_readClause w_X4_readClause) := goodIn_app (goodIn_of _ (by decide +kernel)) gg_X4_faultOf_X4_readClause
set_option maxHeartbeats 4000000 in
set_option maxRecDepth 100000 in
theorem c_X4_faultOf (l : Launch) (E : py_E) (L : List Nat) (f : py_F) (sz : Nat) (h tape dl byt : Nat) (xl : List Value) (hh : py_at L f h (.inr (4, [.ref dl]))) (ht : py_at L f tape (.inr (8, [.ref byt, .int 0, .int 0, .int 0]))) (hd : py_at L f dl (.inr (3, xl))) (hx : xl.length = 3) : Met l yX4_faultOf w_X4_faultOf ({ frames := 3, cells := 0, slots := 0, locals := 65 }) (py_Pc E [.ref h, .ref tape] L f sz) (py_Qi E L f sz (fun r L1 f1 => r = 0 ∧ ∀ m, fr_M E L f m → fr_M E L1 f1 m)) 0 0 (va_A (va_pl L f) sz) := by
  refine Met.ofW (cc := cX4_faultOf) (maxL := 4) (ret := (some .int)) (by decide) rfl ?_
  intro p e s m args below meth c s₁ B hml hv
  obtain ⟨rfl, rfl, hw⟩ := py_start hv
  have G : CallFix p m c cX4_faultOf 4 s _ w_X4_faultOf RX4 := ⟨B.exec, B.bytes, hml, findClass_of_methodNamed B.named, atoms_spec (ws := w_X4_faultOf) B.pre⟩
  have hr := B.returns
  have hlk := B.notSynchronized
  have hl := lv_entry ([.ref h, .ref tape]) (n := 4) (Nat.le_of_ble_eq_true rfl)
  rw [lg_entry_eq]
  generalize (lg_sl ([.ref h, .ref tape]) ++ List.replicate (4 - (lg_sl ([.ref h, .ref tape])).length) Slot.unset).toArray = ls at hl ⊢
  have hl : lv_has ls 4 [(0, .ref h), (1, .ref tape)] := hl
  have hMp : ∀ m, fr_M E L f m → fr_M E L f m := fun _ h => h
  refine lv_aload_n G.1 G.2.1 dX4_faultOf_0 rfl (lv_at hl 1 rfl) ?_
  refine lv_iconst (v := 0) G.1 G.2.1 dX4_faultOf_1 (by decide) ?_
  refine py_put (C := RX8) (T := TX8) (N := 4) (k := 2) (v := .int 0) (fs' := [.ref byt, .int 0, .int 0, .int 0]) (ty0 := tyX8) G hw tyX8_ok nmX8 in_X4_faultOf_X8 rfl ht (by decide) (by decide +kernel) rfl rfl rfl rfl (Nat.le_of_ble_eq_true rfl) rfl dX4_faultOf_2 (fun f_1 H_2 locs h_3 x_4 hw => ?_)
  have hMp : ∀ m, fr_M E L f m → fr_M E L f_1 m := fun m h => fr_M_obj (hMp m h) ht (by decide) x_4
  have hh := hh.ext x_4 (py_ne_kind hh ht (by decide))
  have hd := hd.ext x_4 (py_ne_kind hd ht (by decide))
  refine lv_aload_n G.1 G.2.1 dX4_faultOf_5 rfl (lv_at hl 0 rfl) ?_
  refine py_get (C := RX4) (T := TX4) (N := 1) (k := 0) (v := .ref dl) G hw in_X4_faultOf_X4 rfl hh (by decide) (by decide +kernel) rfl dX4_faultOf_6 ?_
  refine lv_iconst (v := 0) G.1 G.2.1 dX4_faultOf_9 (by decide) ?_
  refine py_put (C := RX3) (T := TX3) (N := 3) (k := 2) (v := .int 0) (fs' := xl.set 2 (.int 0)) (ty0 := tyX3) G hw tyX3_ok nmX3 in_X4_faultOf_X3 rfl hd (by decide) (by decide +kernel) rfl rfl rfl rfl (py_len hx (by decide)) rfl dX4_faultOf_10 (fun f_5 H_6 locs h_7 x_8 hw => ?_)
  obtain ⟨xs_9, exs_9⟩ : ∃ y, y = xl.set 2 (.int 0) := ⟨_, rfl⟩
  rw [← exs_9] at h_7
  have hl_10 : xs_9.length = 3 := by rw [exs_9, List.length_set]; exact hx
  have hp_11 : xs_9[2]? = some (.int 0) := by rw [exs_9, List.getElem?_set_self (by rw [hx]; decide)]
  have hMp : ∀ m, fr_M E L f m → fr_M E L f_5 m := fun m h => fr_M_obj (hMp m h) hd (by decide) x_8
  have hh := hh.ext x_8 (py_ne_kind hh hd (by decide))
  have h_3 := h_3.ext x_8 (py_ne_kind h_3 hd (by decide))
  refine lv_aload_n G.1 G.2.1 dX4_faultOf_13 rfl (lv_at hl 0 rfl) ?_
  refine lv_aload_n G.1 G.2.1 dX4_faultOf_14 rfl (lv_at hl 1 rfl) ?_
  refine py_calli hw (va_runV (As := [.ref tape]) (rest := []) G (c_X4_readClause l E L f_5 H_6.size h tape dl byt hh h_3) (cwV 1 G.2.2.2.2 g_X4_faultOf_X4_readClause_27 rfl rfl rfl (by decide +kernel) ⟨(Nat.le_of_ble_eq_true rfl), (Nat.le_of_ble_eq_true rfl)⟩) (py_preV hw (C := RX4) (T := TX4) (N := 1) rfl hh) rfl rfl hl.1 rfl (lv_room (Nat.le_of_ble_eq_true rfl)) dX4_faultOf_15 ⟨(Nat.le_of_ble_eq_true rfl), (Nat.le_of_ble_eq_true rfl)⟩) (fun r_16 L_12 f_13 H_14 locs hp_15 hw => ?_)
  obtain ⟨rfl, rfl, rfl⟩ := hp_15
  refine lv_istore_n (lv' := [(2, .int 0), (0, .ref h), (1, .ref tape)]) G.1 G.2.1 dX4_faultOf_18 rfl hl (by decide) rfl (fun ls hl => ?_)
  refine lv_iconst (v := 0) G.1 G.2.1 dX4_faultOf_19 (by decide) ?_
  refine lv_istore_n (lv' := [(3, .int 0), (2, .int 0), (0, .ref h), (1, .ref tape)]) G.1 G.2.1 dX4_faultOf_20 rfl hl (by decide) rfl (fun ls hl => ?_)
  refine lv_iload_n G.1 G.2.1 dX4_faultOf_21 rfl (lv_at hl 0 rfl) ?_
  refine lv_sipush (v := 160) G.1 G.2.1 dX4_faultOf_22 (by decide) ?_
  refine lv_icmp_ge (tgt := 53) G.1 G.2.1 dX4_faultOf_25 (by decide) (fun c_17 => ?_) (fun c_17 => ?_)
  · skip
    exact absurd c_17 (by decide)
  · skip
    refine lv_iload_n G.1 G.2.1 dX4_faultOf_28 rfl (lv_at hl 1 rfl) ?_
    refine lv_if_eq (tgt := 53) G.1 G.2.1 dX4_faultOf_29 (by decide) (fun c_18 => ?_) (fun c_18 => ?_)
    · skip
      refine lv_iload_n G.1 G.2.1 dX4_faultOf_53 rfl (lv_at hl 1 rfl) ?_
      refine lv_if_eq (tgt := 68) G.1 G.2.1 dX4_faultOf_54 (by decide) (fun c_19 => ?_) (fun c_19 => ?_)
      · skip
        refine lv_aload_n G.1 G.2.1 dX4_faultOf_68 rfl (lv_at hl 3 rfl) ?_
        refine py_get (C := RX8) (T := TX8) (N := 4) (k := 2) (v := .int 0) G hw in_X4_faultOf_X8 rfl h_3 (by decide) (by decide +kernel) rfl dX4_faultOf_69 ?_
        exact py_iret G hr rfl hlk hw ⟨rfl, hMp⟩ dX4_faultOf_72
      · skip
        exact absurd c_19 (by decide)
    · skip
      exact absurd c_18 (by decide)

def w_X11_fault : List Cond := .code yX11_fault cX11_fault 2 (some .int) :: ([Cond.fieldLink RX11 26 "HeadYear" "lawReader" "LHeadYear$LawReader;", Cond.fieldLink RX11 10 "HeadYear" "tape" "LHeadYear$Tape;", Cond.methodLink RX11 120 yX4_faultOf, Cond.instanceMethod yX4_faultOf, Cond.selects RX4 yX4_faultOf yX4_faultOf, Cond.initialized RX4, Cond.fieldLink RX11 19 "HeadYear" "valleyReader" "LHeadYear$ValleyReader;", Cond.methodLink RX11 116 yX10_faultOf, Cond.instanceMethod yX10_faultOf, Cond.selects RX10 yX10_faultOf yX10_faultOf, Cond.initialized RX10] ++ (u_ws RX11 TX11 16 ++ (w_X4_faultOf ++ (w_X10_faultOf ++ ([])))))
theorem in_X11_fault_X11 : ∀ w ∈ u_ws RX11 TX11 16, w ∈ w_X11_fault := fun _ h => List.mem_cons_of_mem _ (List.mem_append_right _ (List.mem_append_left _ h))
theorem gg_X11_fault_X4_faultOf : GoodIn w_X11_fault w_X4_faultOf := goodIn_sub (fun _ h => List.mem_cons_of_mem _ (List.mem_append_right _ (List.mem_append_right _ (List.mem_append_left _ h)))) (by decide +kernel)
theorem gg_X11_fault_X10_faultOf : GoodIn w_X11_fault w_X10_faultOf := goodIn_sub (fun _ h => List.mem_cons_of_mem _ (List.mem_append_right _ (List.mem_append_right _ (List.mem_append_right _ (List.mem_append_left _ h))))) (by decide +kernel)
theorem g_X11_fault_X10_faultOf_116 : GoodIn w_X11_fault (wsV RX11 116 RX10 yX10_faultOf w_X10_faultOf) := goodIn_app (goodIn_of _ (by decide +kernel)) gg_X11_fault_X10_faultOf
theorem g_X11_fault_X4_faultOf_120 : GoodIn w_X11_fault (wsV RX11 120 RX4 yX4_faultOf w_X4_faultOf) := goodIn_app (goodIn_of _ (by decide +kernel)) gg_X11_fault_X4_faultOf
set_option maxHeartbeats 4000000 in
set_option maxRecDepth 100000 in
theorem c_X11_fault (l : Launch) (E : py_E) (L : List Nat) (f : py_F) (sz : Nat) (h : Nat) (a : Int32) (hF : fr_H E L f h) : Met l yX11_fault w_X11_fault ({ frames := 4, cells := 0, slots := 0, locals := 88 }) (py_Pc E [.ref h, .int a] L f sz) (py_Qi E L f sz (fun r L1 f1 => r = sp_fault a ∧ ∀ m, fr_M E L f m → fr_M E L1 f1 m)) 0 0 (va_A (va_pl L f) sz) := by
  refine Met.ofW (cc := cX11_fault) (maxL := 2) (ret := (some .int)) (by decide) rfl ?_
  intro p e s m args below meth c s₁ B hml hv
  obtain ⟨rfl, rfl, hw⟩ := py_start hv
  have G : CallFix p m c cX11_fault 2 s _ w_X11_fault RX11 := ⟨B.exec, B.bytes, hml, findClass_of_methodNamed B.named, atoms_spec (ws := w_X11_fault) B.pre⟩
  have hr := B.returns
  have hlk := B.notSynchronized
  have hl := lv_entry ([.ref h, .int a]) (n := 2) (Nat.le_of_ble_eq_true rfl)
  rw [lg_entry_eq]
  generalize (lg_sl ([.ref h, .int a]) ++ List.replicate (2 - (lg_sl ([.ref h, .int a])).length) Slot.unset).toArray = ls at hl ⊢
  have hl : lv_has ls 2 [(0, .ref h), (1, .int a)] := hl
  obtain ⟨tape, byt, vr, itm, dr, lr, dl, lws, nl, fo, va, tr, im, di, bu, se, mo, od, g, xd, xl, xf, xv, xi, xu, xs, hh, htape, hbyt, hvr, hdr, hxd, hlr, hdl, hxl, hfo, hxf, hf9, hf11, hva, hxv, hv8, hv9, hdi, hxi, hi2, hbu, hxu, hu3, hse, hxs⟩ := id hF
  have hMp : ∀ m, fr_M E L f m → fr_M E L f m := fun _ h => h
  refine lv_iload_n G.1 G.2.1 dX11_fault_0 rfl (lv_at hl 1 rfl) ?_
  refine lv_if_ne (tgt := 16) G.1 G.2.1 dX11_fault_1 (by decide) (fun c_1 => ?_) (fun c_1 => ?_)
  · skip
    refine lv_iload_n G.1 G.2.1 dX11_fault_16 rfl (lv_at hl 1 rfl) ?_
    refine lv_iconst (v := 1) G.1 G.2.1 dX11_fault_17 (by decide) ?_
    refine lv_icmp_ne (tgt := 35) G.1 G.2.1 dX11_fault_18 (by decide) (fun c_2 => ?_) (fun c_2 => ?_)
    · skip
      refine lv_bipush (v := (-2)) G.1 G.2.1 dX11_fault_35 (by decide) ?_
      exact py_iret G hr rfl hlk hw ⟨by simp [sp_fault, c_1, c_2], hMp⟩ dX11_fault_37
    · skip
      subst c_2
      refine lv_aload_n G.1 G.2.1 dX11_fault_21 rfl (lv_at hl 0 rfl) ?_
      refine py_get (C := RX11) (T := TX11) (N := 16) (k := 2) (v := .ref lr) G hw in_X11_fault_X11 rfl hh (by decide) (by decide +kernel) rfl dX11_fault_22 ?_
      refine lv_aload_n G.1 G.2.1 dX11_fault_25 rfl (lv_at hl 0 rfl) ?_
      refine py_get (C := RX11) (T := TX11) (N := 16) (k := 0) (v := .ref tape) G hw in_X11_fault_X11 rfl hh (by decide) (by decide +kernel) rfl dX11_fault_26 ?_
      refine py_calli hw (va_runV (As := [.ref tape]) (rest := []) G (c_X4_faultOf l E L f s.heap.size lr tape dl byt xl hlr htape hdl hxl) (cwV 1 G.2.2.2.2 g_X11_fault_X4_faultOf_120 rfl rfl rfl (by decide +kernel) ⟨(Nat.le_of_ble_eq_true rfl), (Nat.le_of_ble_eq_true rfl)⟩) (py_preV hw (C := RX4) (T := TX4) (N := 1) rfl hlr) rfl rfl hl.1 rfl (lv_room (Nat.le_of_ble_eq_true rfl)) dX11_fault_29 ⟨(Nat.le_of_ble_eq_true rfl), (Nat.le_of_ble_eq_true rfl)⟩) (fun r_7 L_3 f_4 H_5 locs hp_6 hw => ?_)
      obtain ⟨rfl, hm_8⟩ := hp_6
      have hMp : ∀ m, fr_M E L f m → fr_M E L_3 f_4 m := fun m h => hm_8 m (hMp m h)
      refine lv_goto (tgt := 37) G.1 G.2.1 dX11_fault_32 (by decide) ?_
      exact py_iret G hr rfl hlk hw ⟨by simp [sp_fault, c_1], hMp⟩ dX11_fault_37
  · skip
    subst c_1
    refine lv_aload_n G.1 G.2.1 dX11_fault_4 rfl (lv_at hl 0 rfl) ?_
    refine py_get (C := RX11) (T := TX11) (N := 16) (k := 1) (v := .ref vr) G hw in_X11_fault_X11 rfl hh (by decide) (by decide +kernel) rfl dX11_fault_5 ?_
    refine lv_aload_n G.1 G.2.1 dX11_fault_8 rfl (lv_at hl 0 rfl) ?_
    refine py_get (C := RX11) (T := TX11) (N := 16) (k := 0) (v := .ref tape) G hw in_X11_fault_X11 rfl hh (by decide) (by decide +kernel) rfl dX11_fault_9 ?_
    refine py_calli hw (va_runV (As := [.ref tape]) (rest := []) G (c_X10_faultOf l E L f s.heap.size vr tape itm dr byt xd hvr htape hdr hxd) (cwV 1 G.2.2.2.2 g_X11_fault_X10_faultOf_116 rfl rfl rfl (by decide +kernel) ⟨(Nat.le_of_ble_eq_true rfl), (Nat.le_of_ble_eq_true rfl)⟩) (py_preV hw (C := RX10) (T := TX10) (N := 2) rfl hvr) rfl rfl hl.1 rfl (lv_room (Nat.le_of_ble_eq_true rfl)) dX11_fault_12 ⟨(Nat.le_of_ble_eq_true rfl), (Nat.le_of_ble_eq_true rfl)⟩) (fun r_13 L_9 f_10 H_11 locs hp_12 hw => ?_)
    obtain ⟨rfl, hm_14⟩ := hp_12
    have hMp : ∀ m, fr_M E L f m → fr_M E L_9 f_10 m := fun m h => hm_14 m (hMp m h)
    exact py_iret G hr rfl hlk hw ⟨by simp [sp_fault, ], hMp⟩ dX11_fault_15

def w_X11_text : List Cond := .code yX11_text cX11_text 2 (some .int) :: ([Cond.fieldLink RX11 94 "HeadYear" "lawCount" "I", Cond.fieldLink RX11 26 "HeadYear" "lawReader" "LHeadYear$LawReader;", Cond.fieldLink RX11 10 "HeadYear" "tape" "LHeadYear$Tape;", Cond.methodLink RX11 120 yX4_faultOf, Cond.instanceMethod yX4_faultOf, Cond.selects RX4 yX4_faultOf yX4_faultOf, Cond.initialized RX4, Cond.fieldLink RX11 19 "HeadYear" "valleyReader" "LHeadYear$ValleyReader;", Cond.methodLink RX11 116 yX10_faultOf, Cond.instanceMethod yX10_faultOf, Cond.selects RX10 yX10_faultOf yX10_faultOf, Cond.initialized RX10] ++ (u_ws RX11 TX11 16 ++ (w_X4_faultOf ++ (w_X10_faultOf ++ ([])))))
theorem in_X11_text_X11 : ∀ w ∈ u_ws RX11 TX11 16, w ∈ w_X11_text := fun _ h => List.mem_cons_of_mem _ (List.mem_append_right _ (List.mem_append_left _ h))
theorem gg_X11_text_X4_faultOf : GoodIn w_X11_text w_X4_faultOf := goodIn_sub (fun _ h => List.mem_cons_of_mem _ (List.mem_append_right _ (List.mem_append_right _ (List.mem_append_left _ h)))) (by decide +kernel)
theorem gg_X11_text_X10_faultOf : GoodIn w_X11_text w_X10_faultOf := goodIn_sub (fun _ h => List.mem_cons_of_mem _ (List.mem_append_right _ (List.mem_append_right _ (List.mem_append_right _ (List.mem_append_left _ h))))) (by decide +kernel)
theorem g_X11_text_X10_faultOf_116 : GoodIn w_X11_text (wsV RX11 116 RX10 yX10_faultOf w_X10_faultOf) := goodIn_app (goodIn_of _ (by decide +kernel)) gg_X11_text_X10_faultOf
theorem g_X11_text_X4_faultOf_120 : GoodIn w_X11_text (wsV RX11 120 RX4 yX4_faultOf w_X4_faultOf) := goodIn_app (goodIn_of _ (by decide +kernel)) gg_X11_text_X4_faultOf
set_option maxHeartbeats 4000000 in
set_option maxRecDepth 100000 in
theorem c_X11_text (l : Launch) (E : py_E) (L : List Nat) (f : py_F) (sz : Nat) (h : Nat) (a : Int32) (hF : fr_H E L f h) : Met l yX11_text w_X11_text ({ frames := 4, cells := 0, slots := 0, locals := 88 }) (py_Pc E [.ref h, .int a] L f sz) (py_Qi E L f sz (fun r L1 f1 => r = -1 ∧ ∀ m, fr_M E L f m → fr_M E L1 f1 m)) 0 0 (va_A (va_pl L f) sz) := by
  refine Met.ofW (cc := cX11_text) (maxL := 2) (ret := (some .int)) (by decide) rfl ?_
  intro p e s m args below meth c s₁ B hml hv
  obtain ⟨rfl, rfl, hw⟩ := py_start hv
  have G : CallFix p m c cX11_text 2 s _ w_X11_text RX11 := ⟨B.exec, B.bytes, hml, findClass_of_methodNamed B.named, atoms_spec (ws := w_X11_text) B.pre⟩
  have hr := B.returns
  have hlk := B.notSynchronized
  have hl := lv_entry ([.ref h, .int a]) (n := 2) (Nat.le_of_ble_eq_true rfl)
  rw [lg_entry_eq]
  generalize (lg_sl ([.ref h, .int a]) ++ List.replicate (2 - (lg_sl ([.ref h, .int a])).length) Slot.unset).toArray = ls at hl ⊢
  have hl : lv_has ls 2 [(0, .ref h), (1, .int a)] := hl
  obtain ⟨tape, byt, vr, itm, dr, lr, dl, lws, nl, fo, va, tr, im, di, bu, se, mo, od, g, xd, xl, xf, xv, xi, xu, xs, hh, htape, hbyt, hvr, hdr, hxd, hlr, hdl, hxl, hfo, hxf, hf9, hf11, hva, hxv, hv8, hv9, hdi, hxi, hi2, hbu, hxu, hu3, hse, hxs⟩ := id hF
  have hMp : ∀ m, fr_M E L f m → fr_M E L f m := fun _ h => h
  refine lv_iload_n G.1 G.2.1 dX11_text_0 rfl (lv_at hl 1 rfl) ?_
  refine lv_if_ne (tgt := 24) G.1 G.2.1 dX11_text_1 (by decide) (fun c_1 => ?_) (fun c_1 => ?_)
  · skip
    refine lv_iload_n G.1 G.2.1 dX11_text_24 rfl (lv_at hl 1 rfl) ?_
    refine lv_iconst (v := 1) G.1 G.2.1 dX11_text_25 (by decide) ?_
    refine lv_icmp_ne (tgt := 57) G.1 G.2.1 dX11_text_26 (by decide) (fun c_2 => ?_) (fun c_2 => ?_)
    · skip
      refine lv_iconst (v := (-1)) G.1 G.2.1 dX11_text_57 (by decide) ?_
      exact py_iret G hr rfl hlk hw ⟨rfl, hMp⟩ dX11_text_58
    · skip
      subst c_2
      refine lv_aload_n G.1 G.2.1 dX11_text_29 rfl (lv_at hl 0 rfl) ?_
      refine py_get (C := RX11) (T := TX11) (N := 16) (k := 13) (v := .int 0) G hw in_X11_text_X11 rfl hh (by decide) (by decide +kernel) rfl dX11_text_30 ?_
      refine lv_iconst (v := 4) G.1 G.2.1 dX11_text_33 (by decide) ?_
      refine lv_icmp_ge (tgt := 57) G.1 G.2.1 dX11_text_34 (by decide) (fun c_3 => ?_) (fun c_3 => ?_)
      · skip
        exact absurd c_3 (by decide)
      · skip
        refine lv_aload_n G.1 G.2.1 dX11_text_37 rfl (lv_at hl 0 rfl) ?_
        refine py_get (C := RX11) (T := TX11) (N := 16) (k := 2) (v := .ref lr) G hw in_X11_text_X11 rfl hh (by decide) (by decide +kernel) rfl dX11_text_38 ?_
        refine lv_aload_n G.1 G.2.1 dX11_text_41 rfl (lv_at hl 0 rfl) ?_
        refine py_get (C := RX11) (T := TX11) (N := 16) (k := 0) (v := .ref tape) G hw in_X11_text_X11 rfl hh (by decide) (by decide +kernel) rfl dX11_text_42 ?_
        refine py_calli hw (va_runV (As := [.ref tape]) (rest := []) G (c_X4_faultOf l E L f s.heap.size lr tape dl byt xl hlr htape hdl hxl) (cwV 1 G.2.2.2.2 g_X11_text_X4_faultOf_120 rfl rfl rfl (by decide +kernel) ⟨(Nat.le_of_ble_eq_true rfl), (Nat.le_of_ble_eq_true rfl)⟩) (py_preV hw (C := RX4) (T := TX4) (N := 1) rfl hlr) rfl rfl hl.1 rfl (lv_room (Nat.le_of_ble_eq_true rfl)) dX11_text_45 ⟨(Nat.le_of_ble_eq_true rfl), (Nat.le_of_ble_eq_true rfl)⟩) (fun r_8 L_4 f_5 H_6 locs hp_7 hw => ?_)
        obtain ⟨rfl, hm_9⟩ := hp_7
        have hMp : ∀ m, fr_M E L f m → fr_M E L_4 f_5 m := fun m h => hm_9 m (hMp m h)
        refine lv_iconst (v := (-1)) G.1 G.2.1 dX11_text_48 (by decide) ?_
        refine lv_icmp_ne (tgt := 57) G.1 G.2.1 dX11_text_49 (by decide) (fun c_10 => ?_) (fun c_10 => ?_)
        · skip
          refine lv_iconst (v := (-1)) G.1 G.2.1 dX11_text_57 (by decide) ?_
          exact py_iret G hr rfl hlk hw ⟨rfl, hMp⟩ dX11_text_58
        · skip
          exact absurd c_10 (by decide)
  · skip
    subst c_1
    refine lv_aload_n G.1 G.2.1 dX11_text_4 rfl (lv_at hl 0 rfl) ?_
    refine py_get (C := RX11) (T := TX11) (N := 16) (k := 1) (v := .ref vr) G hw in_X11_text_X11 rfl hh (by decide) (by decide +kernel) rfl dX11_text_5 ?_
    refine lv_aload_n G.1 G.2.1 dX11_text_8 rfl (lv_at hl 0 rfl) ?_
    refine py_get (C := RX11) (T := TX11) (N := 16) (k := 0) (v := .ref tape) G hw in_X11_text_X11 rfl hh (by decide) (by decide +kernel) rfl dX11_text_9 ?_
    refine py_calli hw (va_runV (As := [.ref tape]) (rest := []) G (c_X10_faultOf l E L f s.heap.size vr tape itm dr byt xd hvr htape hdr hxd) (cwV 1 G.2.2.2.2 g_X11_text_X10_faultOf_116 rfl rfl rfl (by decide +kernel) ⟨(Nat.le_of_ble_eq_true rfl), (Nat.le_of_ble_eq_true rfl)⟩) (py_preV hw (C := RX10) (T := TX10) (N := 2) rfl hvr) rfl rfl hl.1 rfl (lv_room (Nat.le_of_ble_eq_true rfl)) dX11_text_12 ⟨(Nat.le_of_ble_eq_true rfl), (Nat.le_of_ble_eq_true rfl)⟩) (fun r_15 L_11 f_12 H_13 locs hp_14 hw => ?_)
    obtain ⟨rfl, hm_16⟩ := hp_14
    have hMp : ∀ m, fr_M E L f m → fr_M E L_11 f_12 m := fun m h => hm_16 m (hMp m h)
    refine lv_iconst (v := (-1)) G.1 G.2.1 dX11_text_15 (by decide) ?_
    refine lv_icmp_ne (tgt := 24) G.1 G.2.1 dX11_text_16 (by decide) (fun c_17 => ?_) (fun c_17 => ?_)
    · skip
      refine lv_iload_n G.1 G.2.1 dX11_text_24 rfl (lv_at hl 1 rfl) ?_
      refine lv_iconst (v := 1) G.1 G.2.1 dX11_text_25 (by decide) ?_
      refine lv_icmp_ne (tgt := 57) G.1 G.2.1 dX11_text_26 (by decide) (fun c_18 => ?_) (fun c_18 => ?_)
      · skip
        refine lv_iconst (v := (-1)) G.1 G.2.1 dX11_text_57 (by decide) ?_
        exact py_iret G hr rfl hlk hw ⟨rfl, hMp⟩ dX11_text_58
      · skip
        exact absurd c_18 (by decide)
    · skip
      exact absurd c_17 (by decide)
