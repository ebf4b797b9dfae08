theorem dJ6_bitCount_0f7a4_0 : decode cJ6_bitCount_0f7a4 0 = .ok (.iload_n 0, 1) := by decide +kernel
theorem dJ6_bitCount_0f7a4_1 : decode cJ6_bitCount_0f7a4 1 = .ok (.iload_n 0, 1) := by decide +kernel
theorem dJ6_bitCount_0f7a4_2 : decode cJ6_bitCount_0f7a4 2 = .ok (.iconst 1, 1) := by decide +kernel
theorem dJ6_bitCount_0f7a4_3 : decode cJ6_bitCount_0f7a4 3 = .ok (.iushr, 1) := by decide +kernel
theorem dJ6_bitCount_0f7a4_4 : decode cJ6_bitCount_0f7a4 4 = .ok (.ldc_w 265, 3) := by decide +kernel
theorem dJ6_bitCount_0f7a4_7 : decode cJ6_bitCount_0f7a4 7 = .ok (.iand, 1) := by decide +kernel
theorem dJ6_bitCount_0f7a4_8 : decode cJ6_bitCount_0f7a4 8 = .ok (.isub, 1) := by decide +kernel
theorem dJ6_bitCount_0f7a4_9 : decode cJ6_bitCount_0f7a4 9 = .ok (.istore_n 0, 1) := by decide +kernel
theorem dJ6_bitCount_0f7a4_10 : decode cJ6_bitCount_0f7a4 10 = .ok (.iload_n 0, 1) := by decide +kernel
theorem dJ6_bitCount_0f7a4_11 : decode cJ6_bitCount_0f7a4 11 = .ok (.ldc_w 266, 3) := by decide +kernel
theorem dJ6_bitCount_0f7a4_14 : decode cJ6_bitCount_0f7a4 14 = .ok (.iand, 1) := by decide +kernel
theorem dJ6_bitCount_0f7a4_15 : decode cJ6_bitCount_0f7a4 15 = .ok (.iload_n 0, 1) := by decide +kernel
theorem dJ6_bitCount_0f7a4_16 : decode cJ6_bitCount_0f7a4 16 = .ok (.iconst 2, 1) := by decide +kernel
theorem dJ6_bitCount_0f7a4_17 : decode cJ6_bitCount_0f7a4 17 = .ok (.iushr, 1) := by decide +kernel
theorem dJ6_bitCount_0f7a4_18 : decode cJ6_bitCount_0f7a4 18 = .ok (.ldc_w 266, 3) := by decide +kernel
theorem dJ6_bitCount_0f7a4_21 : decode cJ6_bitCount_0f7a4 21 = .ok (.iand, 1) := by decide +kernel
theorem dJ6_bitCount_0f7a4_22 : decode cJ6_bitCount_0f7a4 22 = .ok (.iadd, 1) := by decide +kernel
theorem dJ6_bitCount_0f7a4_23 : decode cJ6_bitCount_0f7a4 23 = .ok (.istore_n 0, 1) := by decide +kernel
theorem dJ6_bitCount_0f7a4_24 : decode cJ6_bitCount_0f7a4 24 = .ok (.iload_n 0, 1) := by decide +kernel
theorem dJ6_bitCount_0f7a4_25 : decode cJ6_bitCount_0f7a4 25 = .ok (.iload_n 0, 1) := by decide +kernel
theorem dJ6_bitCount_0f7a4_26 : decode cJ6_bitCount_0f7a4 26 = .ok (.iconst 4, 1) := by decide +kernel
theorem dJ6_bitCount_0f7a4_27 : decode cJ6_bitCount_0f7a4 27 = .ok (.iushr, 1) := by decide +kernel
theorem dJ6_bitCount_0f7a4_28 : decode cJ6_bitCount_0f7a4 28 = .ok (.iadd, 1) := by decide +kernel
theorem dJ6_bitCount_0f7a4_29 : decode cJ6_bitCount_0f7a4 29 = .ok (.ldc_w 267, 3) := by decide +kernel
theorem dJ6_bitCount_0f7a4_32 : decode cJ6_bitCount_0f7a4 32 = .ok (.iand, 1) := by decide +kernel
theorem dJ6_bitCount_0f7a4_33 : decode cJ6_bitCount_0f7a4 33 = .ok (.istore_n 0, 1) := by decide +kernel
theorem dJ6_bitCount_0f7a4_34 : decode cJ6_bitCount_0f7a4 34 = .ok (.iload_n 0, 1) := by decide +kernel
theorem dJ6_bitCount_0f7a4_35 : decode cJ6_bitCount_0f7a4 35 = .ok (.iload_n 0, 1) := by decide +kernel
theorem dJ6_bitCount_0f7a4_36 : decode cJ6_bitCount_0f7a4 36 = .ok (.bipush 8, 2) := by decide +kernel
theorem dJ6_bitCount_0f7a4_38 : decode cJ6_bitCount_0f7a4 38 = .ok (.iushr, 1) := by decide +kernel
theorem dJ6_bitCount_0f7a4_39 : decode cJ6_bitCount_0f7a4 39 = .ok (.iadd, 1) := by decide +kernel
theorem dJ6_bitCount_0f7a4_40 : decode cJ6_bitCount_0f7a4 40 = .ok (.istore_n 0, 1) := by decide +kernel
theorem dJ6_bitCount_0f7a4_41 : decode cJ6_bitCount_0f7a4 41 = .ok (.iload_n 0, 1) := by decide +kernel
theorem dJ6_bitCount_0f7a4_42 : decode cJ6_bitCount_0f7a4 42 = .ok (.iload_n 0, 1) := by decide +kernel
theorem dJ6_bitCount_0f7a4_43 : decode cJ6_bitCount_0f7a4 43 = .ok (.bipush 16, 2) := by decide +kernel
theorem dJ6_bitCount_0f7a4_45 : decode cJ6_bitCount_0f7a4 45 = .ok (.iushr, 1) := by decide +kernel
theorem dJ6_bitCount_0f7a4_46 : decode cJ6_bitCount_0f7a4 46 = .ok (.iadd, 1) := by decide +kernel
theorem dJ6_bitCount_0f7a4_47 : decode cJ6_bitCount_0f7a4 47 = .ok (.istore_n 0, 1) := by decide +kernel
theorem dJ6_bitCount_0f7a4_48 : decode cJ6_bitCount_0f7a4 48 = .ok (.iload_n 0, 1) := by decide +kernel
theorem dJ6_bitCount_0f7a4_49 : decode cJ6_bitCount_0f7a4 49 = .ok (.bipush 63, 2) := by decide +kernel
theorem dJ6_bitCount_0f7a4_51 : decode cJ6_bitCount_0f7a4 51 = .ok (.iand, 1) := by decide +kernel
theorem dJ6_bitCount_0f7a4_52 : decode cJ6_bitCount_0f7a4 52 = .ok (.ireturn, 1) := by decide +kernel
theorem dJ7_fill_53178_0 : decode cJ7_fill_53178 0 = .ok (.iconst 0, 1) := by decide +kernel
theorem dJ7_fill_53178_1 : decode cJ7_fill_53178 1 = .ok (.istore_n 2, 1) := by decide +kernel
theorem dJ7_fill_53178_2 : decode cJ7_fill_53178 2 = .ok (.aload_n 0, 1) := by decide +kernel
theorem dJ7_fill_53178_3 : decode cJ7_fill_53178 3 = .ok (.arraylength, 1) := by decide +kernel
theorem dJ7_fill_53178_4 : decode cJ7_fill_53178 4 = .ok (.istore_n 3, 1) := by decide +kernel
theorem dJ7_fill_53178_5 : decode cJ7_fill_53178 5 = .ok (.iload_n 2, 1) := by decide +kernel
theorem dJ7_fill_53178_6 : decode cJ7_fill_53178 6 = .ok (.iload_n 3, 1) := by decide +kernel
theorem dJ7_fill_53178_7 : decode cJ7_fill_53178 7 = .ok (.if_icmp .ge 13, 3) := by decide +kernel
theorem dJ7_fill_53178_10 : decode cJ7_fill_53178 10 = .ok (.aload_n 0, 1) := by decide +kernel
theorem dJ7_fill_53178_11 : decode cJ7_fill_53178 11 = .ok (.iload_n 2, 1) := by decide +kernel
theorem dJ7_fill_53178_12 : decode cJ7_fill_53178 12 = .ok (.iload_n 1, 1) := by decide +kernel
theorem dJ7_fill_53178_13 : decode cJ7_fill_53178 13 = .ok (.iastore, 1) := by decide +kernel
theorem dJ7_fill_53178_14 : decode cJ7_fill_53178 14 = .ok (.iinc 2 1, 3) := by decide +kernel
theorem dJ7_fill_53178_17 : decode cJ7_fill_53178 17 = .ok (.goto (-12), 3) := by decide +kernel
theorem dJ7_fill_53178_20 : decode cJ7_fill_53178 20 = .ok (.return_, 1) := by decide +kernel
theorem dX5_isRoomFor_0 : decode cX5_isRoomFor 0 = .ok (.aload_n 0, 1) := by decide +kernel
theorem dX5_isRoomFor_1 : decode cX5_isRoomFor 1 = .ok (.getfield 11, 3) := by decide +kernel
theorem dX5_isRoomFor_4 : decode cX5_isRoomFor 4 = .ok (.iconst 0, 1) := by decide +kernel
theorem dX5_isRoomFor_5 : decode cX5_isRoomFor 5 = .ok (.invokestatic 33, 3) := by decide +kernel
theorem dX5_isRoomFor_8 : decode cX5_isRoomFor 8 = .ok (.iconst 0, 1) := by decide +kernel
theorem dX5_isRoomFor_9 : decode cX5_isRoomFor 9 = .ok (.istore_n 3, 1) := by decide +kernel
theorem dX5_isRoomFor_10 : decode cX5_isRoomFor 10 = .ok (.iload_n 3, 1) := by decide +kernel
theorem dX5_isRoomFor_11 : decode cX5_isRoomFor 11 = .ok (.aload_n 1, 1) := by decide +kernel
theorem dX5_isRoomFor_12 : decode cX5_isRoomFor 12 = .ok (.getfield 39, 3) := by decide +kernel
theorem dX5_isRoomFor_15 : decode cX5_isRoomFor 15 = .ok (.getfield 43, 3) := by decide +kernel
theorem dX5_isRoomFor_18 : decode cX5_isRoomFor 18 = .ok (.if_icmp .ge 51, 3) := by decide +kernel
theorem dX5_isRoomFor_21 : decode cX5_isRoomFor 21 = .ok (.iload_n 2, 1) := by decide +kernel
theorem dX5_isRoomFor_22 : decode cX5_isRoomFor 22 = .ok (.iload_n 3, 1) := by decide +kernel
theorem dX5_isRoomFor_23 : decode cX5_isRoomFor 23 = .ok (.ishr, 1) := by decide +kernel
theorem dX5_isRoomFor_24 : decode cX5_isRoomFor 24 = .ok (.iconst 1, 1) := by decide +kernel
theorem dX5_isRoomFor_25 : decode cX5_isRoomFor 25 = .ok (.iand, 1) := by decide +kernel
theorem dX5_isRoomFor_26 : decode cX5_isRoomFor 26 = .ok (.iconst 1, 1) := by decide +kernel
theorem dX5_isRoomFor_27 : decode cX5_isRoomFor 27 = .ok (.if_icmp .ne 11, 3) := by decide +kernel
theorem dX5_isRoomFor_30 : decode cX5_isRoomFor 30 = .ok (.aload_n 1, 1) := by decide +kernel
theorem dX5_isRoomFor_31 : decode cX5_isRoomFor 31 = .ok (.iload_n 3, 1) := by decide +kernel
theorem dX5_isRoomFor_32 : decode cX5_isRoomFor 32 = .ok (.invokevirtual 47, 3) := by decide +kernel
theorem dX5_isRoomFor_35 : decode cX5_isRoomFor 35 = .ok (.goto 9, 3) := by decide +kernel
theorem dX5_isRoomFor_38 : decode cX5_isRoomFor 38 = .ok (.aload_n 1, 1) := by decide +kernel
theorem dX5_isRoomFor_39 : decode cX5_isRoomFor 39 = .ok (.getfield 50, 3) := by decide +kernel
theorem dX5_isRoomFor_42 : decode cX5_isRoomFor 42 = .ok (.iload_n 3, 1) := by decide +kernel
theorem dX5_isRoomFor_43 : decode cX5_isRoomFor 43 = .ok (.iaload, 1) := by decide +kernel
theorem dX5_isRoomFor_44 : decode cX5_isRoomFor 44 = .ok (.istore 4, 2) := by decide +kernel
theorem dX5_isRoomFor_46 : decode cX5_isRoomFor 46 = .ok (.iload 4, 2) := by decide +kernel
theorem dX5_isRoomFor_48 : decode cX5_isRoomFor 48 = .ok (.iconst (-1), 1) := by decide +kernel
theorem dX5_isRoomFor_49 : decode cX5_isRoomFor 49 = .ok (.if_icmp .eq 14, 3) := by decide +kernel
theorem dX5_isRoomFor_52 : decode cX5_isRoomFor 52 = .ok (.aload_n 0, 1) := by decide +kernel
theorem dX5_isRoomFor_53 : decode cX5_isRoomFor 53 = .ok (.getfield 11, 3) := by decide +kernel
theorem dX5_isRoomFor_56 : decode cX5_isRoomFor 56 = .ok (.iload 4, 2) := by decide +kernel
theorem dX5_isRoomFor_58 : decode cX5_isRoomFor 58 = .ok (.dup2, 1) := by decide +kernel
theorem dX5_isRoomFor_59 : decode cX5_isRoomFor 59 = .ok (.iaload, 1) := by decide +kernel
theorem dX5_isRoomFor_60 : decode cX5_isRoomFor 60 = .ok (.iconst 1, 1) := by decide +kernel
theorem dX5_isRoomFor_61 : decode cX5_isRoomFor 61 = .ok (.iadd, 1) := by decide +kernel
theorem dX5_isRoomFor_62 : decode cX5_isRoomFor 62 = .ok (.iastore, 1) := by decide +kernel
theorem dX5_isRoomFor_63 : decode cX5_isRoomFor 63 = .ok (.iinc 3 1, 3) := by decide +kernel
theorem dX5_isRoomFor_66 : decode cX5_isRoomFor 66 = .ok (.goto (-56), 3) := by decide +kernel
theorem dX5_isRoomFor_69 : decode cX5_isRoomFor 69 = .ok (.iconst 0, 1) := by decide +kernel
theorem dX5_isRoomFor_70 : decode cX5_isRoomFor 70 = .ok (.istore_n 3, 1) := by decide +kernel
theorem dX5_isRoomFor_71 : decode cX5_isRoomFor 71 = .ok (.iload_n 3, 1) := by decide +kernel
theorem dX5_isRoomFor_72 : decode cX5_isRoomFor 72 = .ok (.aload_n 1, 1) := by decide +kernel
theorem dX5_isRoomFor_73 : decode cX5_isRoomFor 73 = .ok (.getfield 39, 3) := by decide +kernel
theorem dX5_isRoomFor_76 : decode cX5_isRoomFor 76 = .ok (.getfield 53, 3) := by decide +kernel
theorem dX5_isRoomFor_79 : decode cX5_isRoomFor 79 = .ok (.if_icmp .ge 29, 3) := by decide +kernel
theorem dX5_isRoomFor_82 : decode cX5_isRoomFor 82 = .ok (.aload_n 0, 1) := by decide +kernel
theorem dX5_isRoomFor_83 : decode cX5_isRoomFor 83 = .ok (.getfield 11, 3) := by decide +kernel
theorem dX5_isRoomFor_86 : decode cX5_isRoomFor 86 = .ok (.iload_n 3, 1) := by decide +kernel
theorem dX5_isRoomFor_87 : decode cX5_isRoomFor 87 = .ok (.iaload, 1) := by decide +kernel
theorem dX5_isRoomFor_88 : decode cX5_isRoomFor 88 = .ok (.aload_n 1, 1) := by decide +kernel
theorem dX5_isRoomFor_89 : decode cX5_isRoomFor 89 = .ok (.getfield 39, 3) := by decide +kernel
theorem dX5_isRoomFor_92 : decode cX5_isRoomFor 92 = .ok (.getfield 56, 3) := by decide +kernel
theorem dX5_isRoomFor_95 : decode cX5_isRoomFor 95 = .ok (.iload_n 3, 1) := by decide +kernel
theorem dX5_isRoomFor_96 : decode cX5_isRoomFor 96 = .ok (.iaload, 1) := by decide +kernel
theorem dX5_isRoomFor_97 : decode cX5_isRoomFor 97 = .ok (.if_icmp .le 5, 3) := by decide +kernel
theorem dX5_isRoomFor_100 : decode cX5_isRoomFor 100 = .ok (.iconst 0, 1) := by decide +kernel
theorem dX5_isRoomFor_101 : decode cX5_isRoomFor 101 = .ok (.ireturn, 1) := by decide +kernel
theorem dX5_isRoomFor_102 : decode cX5_isRoomFor 102 = .ok (.iinc 3 1, 3) := by decide +kernel
theorem dX5_isRoomFor_105 : decode cX5_isRoomFor 105 = .ok (.goto (-34), 3) := by decide +kernel
theorem dX5_isRoomFor_108 : decode cX5_isRoomFor 108 = .ok (.iconst 1, 1) := by decide +kernel
theorem dX5_isRoomFor_109 : decode cX5_isRoomFor 109 = .ok (.ireturn, 1) := by decide +kernel
theorem dX5_mostBits_0 : decode cX5_mostBits 0 = .ok (.aload_n 1, 1) := by decide +kernel
theorem dX5_mostBits_1 : decode cX5_mostBits 1 = .ok (.invokevirtual 17, 3) := by decide +kernel
theorem dX5_mostBits_4 : decode cX5_mostBits 4 = .ok (.istore_n 2, 1) := by decide +kernel
theorem dX5_mostBits_5 : decode cX5_mostBits 5 = .ok (.iconst 0, 1) := by decide +kernel
theorem dX5_mostBits_6 : decode cX5_mostBits 6 = .ok (.istore_n 3, 1) := by decide +kernel
theorem dX5_mostBits_7 : decode cX5_mostBits 7 = .ok (.iconst 1, 1) := by decide +kernel
theorem dX5_mostBits_8 : decode cX5_mostBits 8 = .ok (.istore 4, 2) := by decide +kernel
theorem dX5_mostBits_10 : decode cX5_mostBits 10 = .ok (.iload 4, 2) := by decide +kernel
theorem dX5_mostBits_12 : decode cX5_mostBits 12 = .ok (.iload_n 2, 1) := by decide +kernel
theorem dX5_mostBits_13 : decode cX5_mostBits 13 = .ok (.if_icmp .gt 55, 3) := by decide +kernel
theorem dX5_mostBits_16 : decode cX5_mostBits 16 = .ok (.iload 4, 2) := by decide +kernel
theorem dX5_mostBits_18 : decode cX5_mostBits 18 = .ok (.iload_n 2, 1) := by decide +kernel
theorem dX5_mostBits_19 : decode cX5_mostBits 19 = .ok (.iconst (-1), 1) := by decide +kernel
theorem dX5_mostBits_20 : decode cX5_mostBits 20 = .ok (.ixor, 1) := by decide +kernel
theorem dX5_mostBits_21 : decode cX5_mostBits 21 = .ok (.iand, 1) := by decide +kernel
theorem dX5_mostBits_22 : decode cX5_mostBits 22 = .ok (.ifCond .ne 19, 3) := by decide +kernel
theorem dX5_mostBits_25 : decode cX5_mostBits 25 = .ok (.iload 4, 2) := by decide +kernel
theorem dX5_mostBits_27 : decode cX5_mostBits 27 = .ok (.invokestatic 23, 3) := by decide +kernel
theorem dX5_mostBits_30 : decode cX5_mostBits 30 = .ok (.iload_n 3, 1) := by decide +kernel
theorem dX5_mostBits_31 : decode cX5_mostBits 31 = .ok (.invokestatic 23, 3) := by decide +kernel
theorem dX5_mostBits_34 : decode cX5_mostBits 34 = .ok (.if_icmp .le 7, 3) := by decide +kernel
theorem dX5_mostBits_37 : decode cX5_mostBits 37 = .ok (.iconst 1, 1) := by decide +kernel
theorem dX5_mostBits_38 : decode cX5_mostBits 38 = .ok (.goto 4, 3) := by decide +kernel
theorem dX5_mostBits_41 : decode cX5_mostBits 41 = .ok (.iconst 0, 1) := by decide +kernel
theorem dX5_mostBits_42 : decode cX5_mostBits 42 = .ok (.istore 5, 2) := by decide +kernel
theorem dX5_mostBits_44 : decode cX5_mostBits 44 = .ok (.iload 5, 2) := by decide +kernel
theorem dX5_mostBits_46 : decode cX5_mostBits 46 = .ok (.ifCond .eq 16, 3) := by decide +kernel
theorem dX5_mostBits_49 : decode cX5_mostBits 49 = .ok (.aload_n 0, 1) := by decide +kernel
theorem dX5_mostBits_50 : decode cX5_mostBits 50 = .ok (.aload_n 1, 1) := by decide +kernel
theorem dX5_mostBits_51 : decode cX5_mostBits 51 = .ok (.iload 4, 2) := by decide +kernel
theorem dX5_mostBits_53 : decode cX5_mostBits 53 = .ok (.invokevirtual 29, 3) := by decide +kernel
theorem dX5_mostBits_56 : decode cX5_mostBits 56 = .ok (.ifCond .eq 6, 3) := by decide +kernel
theorem dX5_mostBits_59 : decode cX5_mostBits 59 = .ok (.iload 4, 2) := by decide +kernel
theorem dX5_mostBits_61 : decode cX5_mostBits 61 = .ok (.istore_n 3, 1) := by decide +kernel
theorem dX5_mostBits_62 : decode cX5_mostBits 62 = .ok (.iinc 4 1, 3) := by decide +kernel
theorem dX5_mostBits_65 : decode cX5_mostBits 65 = .ok (.goto (-55), 3) := by decide +kernel
theorem dX5_mostBits_68 : decode cX5_mostBits 68 = .ok (.iload_n 3, 1) := by decide +kernel
theorem dX5_mostBits_69 : decode cX5_mostBits 69 = .ok (.ireturn, 1) := by decide +kernel
def w_J6_bitCount_0f7a4 : List Cond := .code yJ6_bitCount_0f7a4 cJ6_bitCount_0f7a4 1 (some .int) :: ([Cond.constant RJ6 265 (1431655765), Cond.constant RJ6 266 (858993459), Cond.constant RJ6 267 (252645135)] ++ ([]))
set_option maxHeartbeats 4000000 in
set_option maxRecDepth 100000 in
theorem c_J6_bitCount_0f7a4 (l : Launch) (E : py_E) (G : wf_G) (L : List Nat) (f : py_F) (sz : Nat) (a : Int32) (hG : GT G) (hWF : WF E G L f) : Met l yJ6_bitCount_0f7a4 w_J6_bitCount_0f7a4 ({ frames := 0, cells := 0, slots := 0, locals := 0 }) (py_Pc E [.int a] L f sz) (py_Qi E L f sz (fun _ L1 f1 => L = L1 ∧ f = f1)) 0 0 (va_A (va_pl L f) sz) := by
  refine Met.ofW (cc := cJ6_bitCount_0f7a4) (maxL := 1) (ret := (some .int)) (by decide) rfl ?_
  intro p e s m args below meth c s₁ B hml hv
  obtain ⟨rfl, rfl, hw⟩ := py_start hv
  have G0 : CallFix p m c cJ6_bitCount_0f7a4 1 s _ w_J6_bitCount_0f7a4 RJ6 := ⟨B.exec, B.bytes, hml, findClass_of_methodNamed B.named, atoms_spec (ws := w_J6_bitCount_0f7a4) B.pre⟩
  have hr := B.returns
  have hlk := B.notSynchronized
  have kcm1 : (-1 : Int32).toInt = -1 := rfl
  have kc0 : (0 : Int32).toInt = 0 := rfl
  have kc1 : (1 : Int32).toInt = 1 := rfl
  have kc2 : (2 : Int32).toInt = 2 := rfl
  have kc4 : (4 : Int32).toInt = 4 := rfl
  have kc8 : (8 : Int32).toInt = 8 := rfl
  have kc16 : (16 : Int32).toInt = 16 := rfl
  have kc63 : (63 : Int32).toInt = 63 := rfl
  have kc252645135 : (252645135 : Int32).toInt = 252645135 := rfl
  have kc858993459 : (858993459 : Int32).toInt = 858993459 := rfl
  have kc1431655765 : (1431655765 : Int32).toInt = 1431655765 := rfl
  have hl := lv_entry ([.int a]) (n := 1) (Nat.le_of_ble_eq_true rfl)
  rw [lg_entry_eq]
  generalize (lg_sl ([.int a]) ++ List.replicate (1 - (lg_sl ([.int a])).length) Slot.unset).toArray = ls at hl ⊢
  have hl : lv_has ls 1 [(0, .int a)] := hl
  have hRP : RP E G f f := RP.refl
  refine lv_iload_n G0.1 G0.2.1 dJ6_bitCount_0f7a4_0 rfl (lv_at hl 0 rfl) ?_
  refine lv_iload_n G0.1 G0.2.1 dJ6_bitCount_0f7a4_1 rfl (lv_at hl 0 rfl) ?_
  refine lv_iconst (v := 1) G0.1 G0.2.1 dJ6_bitCount_0f7a4_2 (by decide) ?_
  refine lv_iushr G0.1 G0.2.1 dJ6_bitCount_0f7a4_3 rfl ?_
  refine lv_topi (fun x_1 ex_1 => ?_)
  refine lv_ldcw (v := 1431655765) G0.1 G0.2.1 G0.2.2.2.1 (G0.2.2.2.2 (Cond.constant RJ6 265 (1431655765)) (by decide +kernel)) dJ6_bitCount_0f7a4_4 ?_
  refine lv_iand G0.1 G0.2.1 dJ6_bitCount_0f7a4_7 ?_
  refine lv_topi (fun x_2 ex_2 => ?_)
  refine lv_isub G0.1 G0.2.1 dJ6_bitCount_0f7a4_8 ?_
  refine lv_topi (fun x_3 ex_3 => ?_)
  first | have tx_3 := ti_sub ex_3 (by omega) (by omega) | skip
  refine lv_istore_n (lv' := [(0, .int x_3)]) G0.1 G0.2.1 dJ6_bitCount_0f7a4_9 rfl hl (by decide) rfl (fun ls hl => ?_)
  refine lv_iload_n G0.1 G0.2.1 dJ6_bitCount_0f7a4_10 rfl (lv_at hl 0 rfl) ?_
  refine lv_ldcw (v := 858993459) G0.1 G0.2.1 G0.2.2.2.1 (G0.2.2.2.2 (Cond.constant RJ6 266 (858993459)) (by decide +kernel)) dJ6_bitCount_0f7a4_11 ?_
  refine lv_iand G0.1 G0.2.1 dJ6_bitCount_0f7a4_14 ?_
  refine lv_topi (fun x_4 ex_4 => ?_)
  refine lv_iload_n G0.1 G0.2.1 dJ6_bitCount_0f7a4_15 rfl (lv_at hl 0 rfl) ?_
  refine lv_iconst (v := 2) G0.1 G0.2.1 dJ6_bitCount_0f7a4_16 (by decide) ?_
  refine lv_iushr G0.1 G0.2.1 dJ6_bitCount_0f7a4_17 rfl ?_
  refine lv_topi (fun x_5 ex_5 => ?_)
  refine lv_ldcw (v := 858993459) G0.1 G0.2.1 G0.2.2.2.1 (G0.2.2.2.2 (Cond.constant RJ6 266 (858993459)) (by decide +kernel)) dJ6_bitCount_0f7a4_18 ?_
  refine lv_iand G0.1 G0.2.1 dJ6_bitCount_0f7a4_21 ?_
  refine lv_topi (fun x_6 ex_6 => ?_)
  refine lv_iadd G0.1 G0.2.1 dJ6_bitCount_0f7a4_22 ?_
  refine lv_topi (fun x_7 ex_7 => ?_)
  first | have tx_7 := ti_add ex_7 (by omega) (by omega) | skip
  refine lv_istore_n (lv' := [(0, .int x_7)]) G0.1 G0.2.1 dJ6_bitCount_0f7a4_23 rfl hl (by decide) rfl (fun ls hl => ?_)
  refine lv_iload_n G0.1 G0.2.1 dJ6_bitCount_0f7a4_24 rfl (lv_at hl 0 rfl) ?_
  refine lv_iload_n G0.1 G0.2.1 dJ6_bitCount_0f7a4_25 rfl (lv_at hl 0 rfl) ?_
  refine lv_iconst (v := 4) G0.1 G0.2.1 dJ6_bitCount_0f7a4_26 (by decide) ?_
  refine lv_iushr G0.1 G0.2.1 dJ6_bitCount_0f7a4_27 rfl ?_
  refine lv_topi (fun x_8 ex_8 => ?_)
  refine lv_iadd G0.1 G0.2.1 dJ6_bitCount_0f7a4_28 ?_
  refine lv_topi (fun x_9 ex_9 => ?_)
  first | have tx_9 := ti_add ex_9 (by omega) (by omega) | skip
  refine lv_ldcw (v := 252645135) G0.1 G0.2.1 G0.2.2.2.1 (G0.2.2.2.2 (Cond.constant RJ6 267 (252645135)) (by decide +kernel)) dJ6_bitCount_0f7a4_29 ?_
  refine lv_iand G0.1 G0.2.1 dJ6_bitCount_0f7a4_32 ?_
  refine lv_topi (fun x_10 ex_10 => ?_)
  refine lv_istore_n (lv' := [(0, .int x_10)]) G0.1 G0.2.1 dJ6_bitCount_0f7a4_33 rfl hl (by decide) rfl (fun ls hl => ?_)
  refine lv_iload_n G0.1 G0.2.1 dJ6_bitCount_0f7a4_34 rfl (lv_at hl 0 rfl) ?_
  refine lv_iload_n G0.1 G0.2.1 dJ6_bitCount_0f7a4_35 rfl (lv_at hl 0 rfl) ?_
  refine lv_bipush (v := 8) G0.1 G0.2.1 dJ6_bitCount_0f7a4_36 (by decide) ?_
  refine lv_iushr G0.1 G0.2.1 dJ6_bitCount_0f7a4_38 rfl ?_
  refine lv_topi (fun x_11 ex_11 => ?_)
  refine lv_iadd G0.1 G0.2.1 dJ6_bitCount_0f7a4_39 ?_
  refine lv_topi (fun x_12 ex_12 => ?_)
  first | have tx_12 := ti_add ex_12 (by omega) (by omega) | skip
  refine lv_istore_n (lv' := [(0, .int x_12)]) G0.1 G0.2.1 dJ6_bitCount_0f7a4_40 rfl hl (by decide) rfl (fun ls hl => ?_)
  refine lv_iload_n G0.1 G0.2.1 dJ6_bitCount_0f7a4_41 rfl (lv_at hl 0 rfl) ?_
  refine lv_iload_n G0.1 G0.2.1 dJ6_bitCount_0f7a4_42 rfl (lv_at hl 0 rfl) ?_
  refine lv_bipush (v := 16) G0.1 G0.2.1 dJ6_bitCount_0f7a4_43 (by decide) ?_
  refine lv_iushr G0.1 G0.2.1 dJ6_bitCount_0f7a4_45 rfl ?_
  refine lv_topi (fun x_13 ex_13 => ?_)
  refine lv_iadd G0.1 G0.2.1 dJ6_bitCount_0f7a4_46 ?_
  refine lv_topi (fun x_14 ex_14 => ?_)
  first | have tx_14 := ti_add ex_14 (by omega) (by omega) | skip
  refine lv_istore_n (lv' := [(0, .int x_14)]) G0.1 G0.2.1 dJ6_bitCount_0f7a4_47 rfl hl (by decide) rfl (fun ls hl => ?_)
  refine lv_iload_n G0.1 G0.2.1 dJ6_bitCount_0f7a4_48 rfl (lv_at hl 0 rfl) ?_
  refine lv_bipush (v := 63) G0.1 G0.2.1 dJ6_bitCount_0f7a4_49 (by decide) ?_
  refine lv_iand G0.1 G0.2.1 dJ6_bitCount_0f7a4_51 ?_
  refine lv_topi (fun x_15 ex_15 => ?_)
  exact py_iret G0 hr rfl hlk hw ⟨rfl, rfl⟩ dJ6_bitCount_0f7a4_52

def w_J7_fill_53178 : List Cond := .code yJ7_fill_53178 cJ7_fill_53178 4 none :: ([] ++ ([]))
set_option maxHeartbeats 4000000 in
set_option maxRecDepth 100000 in
theorem c_J7_fill_53178 (l : Launch) (E : py_E) (G : wf_G) (L : List Nat) (f : py_F) (sz : Nat) (a : Nat) (b : Int32) (hG : GT G) (hWF : WF E G L f) (Ta : G.1 a = 24) : Met l yJ7_fill_53178 w_J7_fill_53178 ({ frames := 0, cells := 0, slots := 0, locals := 0 }) (py_Pc E [.ref a, .int b] L f sz) (py_Qv E L f sz (fun L1 f1 => WF E G L1 f1 ∧ RP E G f f1 ∧ KP G [24] false f f1)) 0 0 (va_A (va_pl L f) sz) := by
  refine Met.ofW (cc := cJ7_fill_53178) (maxL := 4) (ret := none) (by decide) rfl ?_
  intro p e s m args below meth c s₁ B hml hv
  obtain ⟨rfl, rfl, hw⟩ := py_start hv
  have G0 : CallFix p m c cJ7_fill_53178 4 s _ w_J7_fill_53178 RJ7 := ⟨B.exec, B.bytes, hml, findClass_of_methodNamed B.named, atoms_spec (ws := w_J7_fill_53178) B.pre⟩
  have hr := B.returns
  have hlk := B.notSynchronized
  have kcm1 : (-1 : Int32).toInt = -1 := rfl
  have kc0 : (0 : Int32).toInt = 0 := rfl
  have kc1 : (1 : Int32).toInt = 1 := rfl
  have kc8 : (8 : Int32).toInt = 8 := rfl
  have hl := lv_entry ([.ref a, .int b]) (n := 4) (Nat.le_of_ble_eq_true rfl)
  rw [lg_entry_eq]
  generalize (lg_sl ([.ref a, .int b]) ++ List.replicate (4 - (lg_sl ([.ref a, .int b])).length) Slot.unset).toArray = ls at hl ⊢
  have hl : lv_has ls 4 [(0, .ref a), (1, .int b)] := hl
  have hRP : RP E G f f := RP.refl
  have hKP : KP G [24] false f f := KP.refl
  refine lv_iconst (v := 0) G0.1 G0.2.1 dJ7_fill_53178_0 (by decide) ?_
  refine lv_istore_n (lv' := [(2, .int 0), (0, .ref a), (1, .int b)]) G0.1 G0.2.1 dJ7_fill_53178_1 rfl hl (by decide) rfl (fun ls hl => ?_)
  refine lv_aload_n G0.1 G0.2.1 dJ7_fill_53178_2 rfl (lv_at hl 1 rfl) ?_
  obtain ⟨g_1, ha_2, hi_3⟩ := wf_arr (n := 8) (lo := (-2147483648)) (hi := 2147483647) hWF Ta (by decide) (fun _ => rfl)
  refine py_alen (v := 8) G0 hw ha_2 rfl dJ7_fill_53178_3 ?_
  refine lv_istore_n (lv' := [(3, .int 8), (2, .int 0), (0, .ref a), (1, .int b)]) G0.1 G0.2.1 dJ7_fill_53178_4 rfl hl (by decide) rfl (fun ls hl => ?_)
  have lo_5 : ∀ n_5 : Nat, ∀ (v_4 : Int32) (L_j5 : List Nat) (f_j5 : py_F) (H_j5 : Heap) (locs : List Loc) (ls : Array Slot), (2147483647 - v_4.toInt).toNat = n_5 → (0 ≤ v_4.toInt ∧ v_4.toInt ≤ 2147483647) → WF E G L_j5 f_j5 → RP E G f f_j5 → KP G [24] false f f_j5 → py_W E (va_A (va_pl L f) s.heap.size) s L_j5 f_j5 H_j5 locs → lv_has ls 4 [(3, .int 8), (2, .int v_4), (0, .ref a), (1, .int b)] → W p l e (headSpec w_J7_fill_53178 ({ frames := 0, cells := 0, slots := 0, locals := 0 })).room s m ([.ref a, .int b] : List Value).toArray below meth c H_j5 locs 0 0 (MQ below (py_Qv E L f s.heap.size (fun L1 f1 => WF E G L1 f1 ∧ RP E G f f1 ∧ KP G [24] false f f1)) ([.ref a, .int b] : List Value).toArray s 0 0 (va_A (va_pl L f) s.heap.size)) (F0 m 5 ls []) := by
    intro n_5
    induction n_5 using Nat.strongRecOn with
    | _ n_5 ih_5 =>
      intro v_4 L_j5 f_j5 H_j5 locs ls hn_5 bv_4 hWF hRP hKP hw hl
      refine lv_iload_n G0.1 G0.2.1 dJ7_fill_53178_5 rfl (lv_at hl 1 rfl) ?_
      refine lv_iload_n G0.1 G0.2.1 dJ7_fill_53178_6 rfl (lv_at hl 0 rfl) ?_
      refine lv_icmp_ge (tgt := 20) G0.1 G0.2.1 dJ7_fill_53178_7 (by decide) (fun c_5 => ?_) (fun c_5 => ?_)
      · skip
        have tc_5 := ti_le c_5
        exact py_vret G0 hr hlk hw ⟨hWF, hRP, hKP⟩ dJ7_fill_53178_20
      · skip
        have tc_5 := ti_nle c_5
        refine lv_aload_n G0.1 G0.2.1 dJ7_fill_53178_10 rfl (lv_at hl 2 rfl) ?_
        refine lv_iload_n G0.1 G0.2.1 dJ7_fill_53178_11 rfl (lv_at hl 1 rfl) ?_
        refine lv_iload_n G0.1 G0.2.1 dJ7_fill_53178_12 rfl (lv_at hl 3 rfl) ?_
        obtain ⟨g_6, ha_7, hi_8⟩ := wf_arr (n := 8) (lo := (-2147483648)) (hi := 2147483647) hWF Ta (by decide) (fun _ => rfl)
        have rg_9 : vp_in v_4 8 := ti_in (by omega) (by omega)
        refine py_iast G0 hw ha_7 rg_9 dJ7_fill_53178_13 (fun f_10 H_11 locs h_12 x_13 hw => ?_)
        have hKP := hKP.upd hWF x_13 Ta (Or.inl (by decide))
        have hRP := hRP.trans (rp_upd hG hWF x_13 ha_7.2 h_12.2 (rp_code hG Ta (by decide)) rfl)
        have hi_14 := wf_inu (k := (v_4 : Int32).toNatClampNeg) (x := b) hi_8 (wf_free b).1 (wf_free b).2
        have hWF := wf_upd hWF h_12 x_13 (by rw [Ta]; exact ⟨_, rfl, hi_14⟩)
        obtain ⟨x_15, ex_15⟩ : ∃ y : Int32, y = v_4 + 1 := ⟨_, rfl⟩
        first | have tx_15 := ti_add ex_15 (by omega) (by omega) | skip
        refine lv_iinc (v := x_15) (lv' := [(2, .int x_15), (3, .int 8), (0, .ref a), (1, .int b)]) G0.1 G0.2.1 dJ7_fill_53178_14 hl (k := 1) rfl (show _ + (1 : Int32) = _ from ex_15.symm) (by decide) rfl (fun ls hl => ?_)
        refine lv_goto (tgt := 5) G0.1 G0.2.1 dJ7_fill_53178_17 (by decide) ?_
        exact ih_5 ((2147483647 - x_15.toInt).toNat) (by omega) x_15 L_j5 f_10 _ _ ls rfl ⟨by omega, by omega⟩ hWF hRP hKP hw (lv_sub hl [1, 0, 2, 3] rfl)
  exact lo_5 _ 0 L f _ _ ls rfl ⟨by omega, by omega⟩ hWF hRP hKP hw (lv_sub hl [0, 1, 2, 3] rfl)

def w_X5_isRoomFor : List Cond := .code yX5_isRoomFor cX5_isRoomFor 5 (some .boolean) :: ([Cond.fieldLink RX5 11 "HeadYear$Moves" "there" "[I", Cond.methodLink RX5 33 yJ7_fill_53178, Cond.static yJ7_fill_53178, Cond.initialized RJ7, Cond.fieldLink RX5 39 "HeadYear$Folk" "valley" "LHeadYear$Valley;", Cond.fieldLink RX5 43 "HeadYear$Valley" "families" "I", Cond.fieldLink RX5 53 "HeadYear$Valley" "levels" "I", Cond.fieldLink RX5 56 "HeadYear$Valley" "huts" "[I", Cond.fieldLink RX5 50 "HeadYear$Folk" "level" "[I", Cond.methodLink RX5 47 yX2_want, Cond.instanceMethod yX2_want, Cond.selects RX2 yX2_want yX2_want, Cond.initialized RX2] ++ (u_ws RX5 TX5 1 ++ (u_ws RX2 TX2 12 ++ (u_ws RX9 TX9 10 ++ (w_J7_fill_53178 ++ (w_X2_want ++ ([])))))))
theorem in_X5_isRoomFor_X5 : ∀ w ∈ u_ws RX5 TX5 1, w ∈ w_X5_isRoomFor := fun _ h => List.mem_cons_of_mem _ (List.mem_append_right _ (List.mem_append_left _ h))
theorem in_X5_isRoomFor_X2 : ∀ w ∈ u_ws RX2 TX2 12, w ∈ w_X5_isRoomFor := fun _ h => List.mem_cons_of_mem _ (List.mem_append_right _ (List.mem_append_right _ (List.mem_append_left _ h)))
theorem in_X5_isRoomFor_X9 : ∀ w ∈ u_ws RX9 TX9 10, w ∈ w_X5_isRoomFor := fun _ h => List.mem_cons_of_mem _ (List.mem_append_right _ (List.mem_append_right _ (List.mem_append_right _ (List.mem_append_left _ h))))
theorem gg_X5_isRoomFor_J7_fill_53178 : GoodIn w_X5_isRoomFor w_J7_fill_53178 := goodIn_sub (fun _ h => List.mem_cons_of_mem _ (List.mem_append_right _ (List.mem_append_right _ (List.mem_append_right _ (List.mem_append_right _ (List.mem_append_left _ h)))))) (by decide +kernel)
theorem gg_X5_isRoomFor_X2_want : GoodIn w_X5_isRoomFor w_X2_want := goodIn_sub (fun _ h => List.mem_cons_of_mem _ (List.mem_append_right _ (List.mem_append_right _ (List.mem_append_right _ (List.mem_append_right _ (List.mem_append_right _ (List.mem_append_left _ h))))))) (by decide +kernel)
theorem g_X5_isRoomFor_J7_fill_53178_33 : GoodIn w_X5_isRoomFor (va_wsS RX5 33 yJ7_fill_53178 w_J7_fill_53178) := goodIn_app (goodIn_of _ (by decide +kernel)) gg_X5_isRoomFor_J7_fill_53178
theorem g_X5_isRoomFor_X2_want_47 : GoodIn w_X5_isRoomFor (wsV RX5 47 RX2 yX2_want w_X2_want) := goodIn_app (goodIn_of _ (by decide +kernel)) gg_X5_isRoomFor_X2_want
set_option maxHeartbeats 4000000 in
set_option maxRecDepth 100000 in
theorem c_X5_isRoomFor (l : Launch) (E : py_E) (G : wf_G) (L : List Nat) (f : py_F) (sz : Nat) (z : Nat) (h : Nat) (a : Int32) (hG : GT G) (hWF : WF E G L f) (Tz : G.1 z = 6) (Th : G.1 h = 3) : Met l yX5_isRoomFor w_X5_isRoomFor ({ frames := 2, cells := 0, slots := 0, locals := 46 }) (py_Pc E [.ref z, .ref h, .int a] L f sz) (py_Qi E L f sz (fun r L1 f1 => (0 ≤ r.toInt ∧ r.toInt ≤ 1) ∧ WF E G L1 f1 ∧ RP E G f f1 ∧ KP G [24] false f f1)) 0 0 (va_A (va_pl L f) sz) := by
  refine Met.ofW (cc := cX5_isRoomFor) (maxL := 5) (ret := (some .boolean)) (by decide) rfl ?_
  intro p e s m args below meth c s₁ B hml hv
  obtain ⟨rfl, rfl, hw⟩ := py_start hv
  have G0 : CallFix p m c cX5_isRoomFor 5 s _ w_X5_isRoomFor RX5 := ⟨B.exec, B.bytes, hml, findClass_of_methodNamed B.named, atoms_spec (ws := w_X5_isRoomFor) B.pre⟩
  have hr := B.returns
  have hlk := B.notSynchronized
  have kcm1 : (-1 : Int32).toInt = -1 := rfl
  have kc0 : (0 : Int32).toInt = 0 := rfl
  have kc1 : (1 : Int32).toInt = 1 := rfl
  have hl := lv_entry ([.ref z, .ref h, .int a]) (n := 5) (Nat.le_of_ble_eq_true rfl)
  rw [lg_entry_eq]
  generalize (lg_sl ([.ref z, .ref h, .int a]) ++ List.replicate (5 - (lg_sl ([.ref z, .ref h, .int a])).length) Slot.unset).toArray = ls at hl ⊢
  have hl : lv_has ls 5 [(0, .ref z), (1, .ref h), (2, .int a)] := hl
  have hRP : RP E G f f := RP.refl
  have hKP : KP G [24] false f f := KP.refl
  refine lv_aload_n G0.1 G0.2.1 dX5_isRoomFor_0 rfl (lv_at hl 0 rfl) ?_
  have t_1 := wt_5 hG Tz
  have hr_2 := wg_5 hWF Tz
  refine py_get (C := RX5) (T := TX5) (N := 1) (k := 0) (v := .ref (G.2 z 0)) G0 hw in_X5_isRoomFor_X5 rfl hr_2 (by decide) (by decide +kernel) rfl dX5_isRoomFor_1 ?_
  refine lv_iconst (v := 0) G0.1 G0.2.1 dX5_isRoomFor_4 (by decide) ?_
  refine py_callv hw (va_runS (As := [.ref (G.2 z 0), .int 0]) (rest := []) G0 (c_J7_fill_53178 l E G L f s.heap.size (G.2 z 0) 0 hG hWF t_1) (va_cwS 2 G0.2.2.2.2 g_X5_isRoomFor_J7_fill_53178_33 rfl rfl rfl (by decide +kernel) ⟨(Nat.le_of_ble_eq_true rfl), (Nat.le_of_ble_eq_true rfl)⟩) (py_preS hw) rfl rfl hl.1 rfl (lv_room (Nat.le_of_ble_eq_true rfl)) dX5_isRoomFor_5 ⟨(Nat.le_of_ble_eq_true rfl), (Nat.le_of_ble_eq_true rfl)⟩) (fun L_3 f_4 H_5 locs hp_6 hw => ?_)
  obtain ⟨hWF, hq_8, kp_9⟩ := hp_6
  have hRP := hRP.trans hq_8
  have hKP := hKP.trans kp_9 (by decide) (by decide)
  have hr_2 := kp_at kp_9 hWF Tz (by decide) (by decide) (by decide) hr_2
  refine lv_iconst (v := 0) G0.1 G0.2.1 dX5_isRoomFor_8 (by decide) ?_
  refine lv_istore_n (lv' := [(3, .int 0), (0, .ref z), (1, .ref h), (2, .int a)]) G0.1 G0.2.1 dX5_isRoomFor_9 rfl hl (by decide) rfl (fun ls hl => ?_)
  have lo_10 : ∀ n_10 : Nat, ∀ (v_10 : Int32) (L_j10 : List Nat) (f_j10 : py_F) (H_j10 : Heap) (locs : List Loc) (ls : Array Slot), (2147483647 - v_10.toInt).toNat = n_10 → (0 ≤ v_10.toInt ∧ v_10.toInt ≤ 2147483647) → WF E G L_j10 f_j10 → RP E G f f_j10 → KP G [24] false f f_j10 → py_W E (va_A (va_pl L f) s.heap.size) s L_j10 f_j10 H_j10 locs → lv_has ls 5 [(3, .int v_10), (0, .ref z), (1, .ref h), (2, .int a)] → W p l e (headSpec w_X5_isRoomFor ({ frames := 2, cells := 0, slots := 0, locals := 46 })).room s m ([.ref z, .ref h, .int a] : List Value).toArray below meth c H_j10 locs 0 0 (MQ below (py_Qi E L f s.heap.size (fun r L1 f1 => (0 ≤ r.toInt ∧ r.toInt ≤ 1) ∧ WF E G L1 f1 ∧ RP E G f f1 ∧ KP G [24] false f f1)) ([.ref z, .ref h, .int a] : List Value).toArray s 0 0 (va_A (va_pl L f) s.heap.size)) (F0 m 10 ls []) := by
    intro n_10
    induction n_10 using Nat.strongRecOn with
    | _ n_10 ih_10 =>
      intro v_10 L_j10 f_j10 H_j10 locs ls hn_10 bv_10 hWF hRP hKP hw hl
      refine lv_iload_n G0.1 G0.2.1 dX5_isRoomFor_10 rfl (lv_at hl 0 rfl) ?_
      refine lv_aload_n G0.1 G0.2.1 dX5_isRoomFor_11 rfl (lv_at hl 2 rfl) ?_
      obtain ⟨t_11, t_12, t_13, t_14, t_15, t_16, t_17, t_18, t_19⟩ := wt_2 hG Th
      obtain ⟨r_20, y_21, v_22, hr_25, ty_23, b_24⟩ := wg_2 hWF Th
      refine py_get (C := RX2) (T := TX2) (N := 12) (k := 9) (v := .ref r_20) G0 hw in_X5_isRoomFor_X2 rfl hr_25 (by decide) (by decide +kernel) rfl dX5_isRoomFor_12 ?_
      obtain ⟨t_26, t_27, t_28, t_29, t_30, t_31, t_32, t_33⟩ := wt_9 hG ty_23
      obtain ⟨v_34, v_35, hr_38, b_36, b_37⟩ := wg_9 hWF ty_23
      have tq_39 := va_eq hr_38
      refine py_get (C := RX9) (T := TX9) (N := 10) (k := 9) (v := .int v_35) G0 hw in_X5_isRoomFor_X9 rfl hr_38 (by decide) (by decide +kernel) rfl dX5_isRoomFor_15 ?_
      refine lv_icmp_ge (tgt := 69) G0.1 G0.2.1 dX5_isRoomFor_18 (by decide) (fun c_40 => ?_) (fun c_40 => ?_)
      · skip
        have tc_40 := ti_le c_40
        refine lv_iconst (v := 0) G0.1 G0.2.1 dX5_isRoomFor_69 (by decide) ?_
        refine lv_istore_n (lv' := [(3, .int 0), (0, .ref z), (1, .ref h), (2, .int a)]) G0.1 G0.2.1 dX5_isRoomFor_70 rfl hl (by decide) rfl (fun ls hl => ?_)
        have lo_71 : ∀ n_71 : Nat, ∀ (v_41 : Int32) (H_j71 : Heap) (locs : List Loc) (ls : Array Slot), (2147483647 - v_41.toInt).toNat = n_71 → (0 ≤ v_41.toInt ∧ v_41.toInt ≤ 2147483647) → py_W E (va_A (va_pl L f) s.heap.size) s L_j10 f_j10 H_j71 locs → lv_has ls 5 [(3, .int v_41), (0, .ref z), (1, .ref h), (2, .int a)] → W p l e (headSpec w_X5_isRoomFor ({ frames := 2, cells := 0, slots := 0, locals := 46 })).room s m ([.ref z, .ref h, .int a] : List Value).toArray below meth c H_j71 locs 0 0 (MQ below (py_Qi E L f s.heap.size (fun r L1 f1 => (0 ≤ r.toInt ∧ r.toInt ≤ 1) ∧ WF E G L1 f1 ∧ RP E G f f1 ∧ KP G [24] false f f1)) ([.ref z, .ref h, .int a] : List Value).toArray s 0 0 (va_A (va_pl L f) s.heap.size)) (F0 m 71 ls []) := by
          intro n_71
          induction n_71 using Nat.strongRecOn with
          | _ n_71 ih_71 =>
            intro v_41 H_j71 locs ls hn_71 bv_41 hw hl
            refine lv_iload_n G0.1 G0.2.1 dX5_isRoomFor_71 rfl (lv_at hl 0 rfl) ?_
            refine lv_aload_n G0.1 G0.2.1 dX5_isRoomFor_72 rfl (lv_at hl 2 rfl) ?_
            refine py_get (C := RX2) (T := TX2) (N := 12) (k := 9) (v := .ref r_20) G0 hw in_X5_isRoomFor_X2 rfl hr_25 (by decide) (by decide +kernel) rfl dX5_isRoomFor_73 ?_
            refine py_get (C := RX9) (T := TX9) (N := 10) (k := 8) (v := .int v_34) G0 hw in_X5_isRoomFor_X9 rfl hr_38 (by decide) (by decide +kernel) rfl dX5_isRoomFor_76 ?_
            refine lv_icmp_ge (tgt := 108) G0.1 G0.2.1 dX5_isRoomFor_79 (by decide) (fun c_42 => ?_) (fun c_42 => ?_)
            · skip
              have tc_42 := ti_le c_42
              refine lv_iconst (v := 1) G0.1 G0.2.1 dX5_isRoomFor_108 (by decide) ?_
              exact py_iret G0 hr rfl hlk hw ⟨⟨by omega, by omega⟩, hWF, hRP, hKP⟩ dX5_isRoomFor_109
            · skip
              have tc_42 := ti_nle c_42
              refine lv_aload_n G0.1 G0.2.1 dX5_isRoomFor_82 rfl (lv_at hl 1 rfl) ?_
              have hr_43 := wg_5 hWF Tz
              refine py_get (C := RX5) (T := TX5) (N := 1) (k := 0) (v := .ref (G.2 z 0)) G0 hw in_X5_isRoomFor_X5 rfl hr_43 (by decide) (by decide +kernel) rfl dX5_isRoomFor_83 ?_
              refine lv_iload_n G0.1 G0.2.1 dX5_isRoomFor_86 rfl (lv_at hl 0 rfl) ?_
              obtain ⟨g_44, ha_45, hi_46⟩ := wf_arr (n := 8) (lo := (-2147483648)) (hi := 2147483647) hWF t_1 (by decide) (fun _ => rfl)
              have rg_47 : vp_in v_41 8 := ti_in (by omega) (by omega)
              refine py_iald G0 hw ha_45 rg_47 dX5_isRoomFor_87 ?_
              refine lv_topi (fun x_48 ex_48 => ?_)
              have bx_48 := wf_free x_48
              refine lv_aload_n G0.1 G0.2.1 dX5_isRoomFor_88 rfl (lv_at hl 2 rfl) ?_
              refine py_get (C := RX2) (T := TX2) (N := 12) (k := 9) (v := .ref r_20) G0 hw in_X5_isRoomFor_X2 rfl hr_25 (by decide) (by decide +kernel) rfl dX5_isRoomFor_89 ?_
              refine py_get (C := RX9) (T := TX9) (N := 10) (k := 0) (v := .ref (G.2 r_20 0)) G0 hw in_X5_isRoomFor_X9 rfl hr_38 (by decide) (by decide +kernel) rfl dX5_isRoomFor_92 ?_
              refine lv_iload_n G0.1 G0.2.1 dX5_isRoomFor_95 rfl (lv_at hl 0 rfl) ?_
              obtain ⟨g_49, ha_50, hi_51⟩ := wf_arr (n := 8) (lo := (-2147483648)) (hi := 2147483647) hWF t_26 (by decide) (fun _ => rfl)
              have rg_52 : vp_in v_41 8 := ti_in (by omega) (by omega)
              refine py_iald G0 hw ha_50 rg_52 dX5_isRoomFor_96 ?_
              refine lv_topi (fun x_53 ex_53 => ?_)
              have bx_53 := wf_free x_53
              refine lv_icmp_le (tgt := 102) G0.1 G0.2.1 dX5_isRoomFor_97 (by decide) (fun c_54 => ?_) (fun c_54 => ?_)
              · skip
                have tc_54 := ti_le c_54
                obtain ⟨x_55, ex_55⟩ : ∃ y : Int32, y = v_41 + 1 := ⟨_, rfl⟩
                first | have tx_55 := ti_add ex_55 (by omega) (by omega) | skip
                refine lv_iinc (v := x_55) (lv' := [(3, .int x_55), (0, .ref z), (1, .ref h), (2, .int a)]) G0.1 G0.2.1 dX5_isRoomFor_102 hl (k := 0) rfl (show _ + (1 : Int32) = _ from ex_55.symm) (by decide) rfl (fun ls hl => ?_)
                refine lv_goto (tgt := 71) G0.1 G0.2.1 dX5_isRoomFor_105 (by decide) ?_
                exact ih_71 ((2147483647 - x_55.toInt).toNat) (by omega) x_55 _ _ ls rfl ⟨by omega, by omega⟩ hw (lv_sub hl [0, 1, 2, 3] rfl)
              · skip
                have tc_54 := ti_nle c_54
                refine lv_iconst (v := 0) G0.1 G0.2.1 dX5_isRoomFor_100 (by decide) ?_
                exact py_iret G0 hr rfl hlk hw ⟨⟨by omega, by omega⟩, hWF, hRP, hKP⟩ dX5_isRoomFor_101
        exact lo_71 _ 0 _ _ ls rfl ⟨by omega, by omega⟩ hw (lv_sub hl [0, 1, 2, 3] rfl)
      · skip
        have tc_40 := ti_nle c_40
        refine lv_iload_n G0.1 G0.2.1 dX5_isRoomFor_21 rfl (lv_at hl 3 rfl) ?_
        refine lv_iload_n G0.1 G0.2.1 dX5_isRoomFor_22 rfl (lv_at hl 0 rfl) ?_
        refine lv_ishr G0.1 G0.2.1 dX5_isRoomFor_23 ?_
        refine lv_topi (fun x_56 ex_56 => ?_)
        refine lv_iconst (v := 1) G0.1 G0.2.1 dX5_isRoomFor_24 (by decide) ?_
        refine lv_iand G0.1 G0.2.1 dX5_isRoomFor_25 ?_
        refine lv_topi (fun x_57 ex_57 => ?_)
        refine lv_iconst (v := 1) G0.1 G0.2.1 dX5_isRoomFor_26 (by decide) ?_
        have jn_44 : ∀ (v_58 : Int32) (H_j44 : Heap) (locs : List Loc) (ls : Array Slot), ((-1) ≤ v_58.toInt ∧ v_58.toInt ≤ 7) → py_W E (va_A (va_pl L f) s.heap.size) s L_j10 f_j10 H_j44 locs → lv_has ls 5 [(3, .int v_10), (0, .ref z), (1, .ref h), (2, .int a)] → W p l e (headSpec w_X5_isRoomFor ({ frames := 2, cells := 0, slots := 0, locals := 46 })).room s m ([.ref z, .ref h, .int a] : List Value).toArray below meth c H_j44 locs 0 0 (MQ below (py_Qi E L f s.heap.size (fun r L1 f1 => (0 ≤ r.toInt ∧ r.toInt ≤ 1) ∧ WF E G L1 f1 ∧ RP E G f f1 ∧ KP G [24] false f f1)) ([.ref z, .ref h, .int a] : List Value).toArray s 0 0 (va_A (va_pl L f) s.heap.size)) (F0 m 44 ls [.int v_58]) := by
          intro v_58 H_j44 locs ls bv_58 hw hl
          refine lv_istore (lv' := [(4, .int v_58), (3, .int v_10), (0, .ref z), (1, .ref h), (2, .int a)]) G0.1 G0.2.1 dX5_isRoomFor_44 hl (by decide) rfl (fun ls hl => ?_)
          refine lv_iload G0.1 G0.2.1 dX5_isRoomFor_46 (lv_at hl 0 rfl) ?_
          refine lv_iconst (v := (-1)) G0.1 G0.2.1 dX5_isRoomFor_48 (by decide) ?_
          refine lv_icmp_eq (tgt := 63) G0.1 G0.2.1 dX5_isRoomFor_49 (by decide) (fun c_59 => ?_) (fun c_59 => ?_)
          · skip
            have tc_59 := ti_eq c_59
            obtain ⟨x_60, ex_60⟩ : ∃ y : Int32, y = v_10 + 1 := ⟨_, rfl⟩
            first | have tx_60 := ti_add ex_60 (by omega) (by omega) | skip
            refine lv_iinc (v := x_60) (lv' := [(3, .int x_60), (4, .int v_58), (0, .ref z), (1, .ref h), (2, .int a)]) G0.1 G0.2.1 dX5_isRoomFor_63 hl (k := 1) rfl (show _ + (1 : Int32) = _ from ex_60.symm) (by decide) rfl (fun ls hl => ?_)
            refine lv_goto (tgt := 10) G0.1 G0.2.1 dX5_isRoomFor_66 (by decide) ?_
            exact ih_10 ((2147483647 - x_60.toInt).toNat) (by omega) x_60 L_j10 f_j10 _ _ ls rfl ⟨by omega, by omega⟩ hWF hRP hKP hw (lv_sub hl [0, 2, 3, 4] rfl)
          · skip
            have tc_59 := ti_ne c_59
            refine lv_aload_n G0.1 G0.2.1 dX5_isRoomFor_52 rfl (lv_at hl 2 rfl) ?_
            have hr_61 := wg_5 hWF Tz
            refine py_get (C := RX5) (T := TX5) (N := 1) (k := 0) (v := .ref (G.2 z 0)) G0 hw in_X5_isRoomFor_X5 rfl hr_61 (by decide) (by decide +kernel) rfl dX5_isRoomFor_53 ?_
            refine lv_iload G0.1 G0.2.1 dX5_isRoomFor_56 (lv_at hl 0 rfl) ?_
            refine lv_dup2_11 G0.1 G0.2.1 dX5_isRoomFor_58 rfl rfl ?_
            obtain ⟨g_62, ha_63, hi_64⟩ := wf_arr (n := 8) (lo := (-2147483648)) (hi := 2147483647) hWF t_1 (by decide) (fun _ => rfl)
            have rg_65 : vp_in v_58 8 := ti_in (by omega) (by omega)
            refine py_iald G0 hw ha_63 rg_65 dX5_isRoomFor_59 ?_
            refine lv_topi (fun x_66 ex_66 => ?_)
            have bx_66 := wf_free x_66
            refine lv_iconst (v := 1) G0.1 G0.2.1 dX5_isRoomFor_60 (by decide) ?_
            refine lv_iadd G0.1 G0.2.1 dX5_isRoomFor_61 ?_
            refine lv_topi (fun x_67 ex_67 => ?_)
            first | have tx_67 := ti_add ex_67 (by omega) (by omega) | skip
            have rg_68 : vp_in v_58 8 := ti_in (by omega) (by omega)
            refine py_iast G0 hw ha_63 rg_68 dX5_isRoomFor_62 (fun f_69 H_70 locs h_71 x_72 hw => ?_)
            have hKP := hKP.upd hWF x_72 t_1 (Or.inl (by decide))
            have hRP := hRP.trans (rp_upd hG hWF x_72 ha_63.2 h_71.2 (rp_code hG t_1 (by decide)) rfl)
            have hi_73 := wf_inu (k := (v_58 : Int32).toNatClampNeg) (x := x_67) hi_64 (wf_free x_67).1 (wf_free x_67).2
            have hWF := wf_upd hWF h_71 x_72 (by rw [t_1]; exact ⟨_, rfl, hi_73⟩)
            have hr_25 := hr_25.ext x_72 (py_ne_arr hr_25 ha_63)
            have hr_38 := hr_38.ext x_72 (py_ne_arr hr_38 ha_63)
            have tq_74 := va_eq hr_38
            have hr_61 := hr_61.ext x_72 (py_ne_arr hr_61 ha_63)
            obtain ⟨x_75, ex_75⟩ : ∃ y : Int32, y = v_10 + 1 := ⟨_, rfl⟩
            first | have tx_75 := ti_add ex_75 (by omega) (by omega) | skip
            refine lv_iinc (v := x_75) (lv' := [(3, .int x_75), (4, .int v_58), (0, .ref z), (1, .ref h), (2, .int a)]) G0.1 G0.2.1 dX5_isRoomFor_63 hl (k := 1) rfl (show _ + (1 : Int32) = _ from ex_75.symm) (by decide) rfl (fun ls hl => ?_)
            refine lv_goto (tgt := 10) G0.1 G0.2.1 dX5_isRoomFor_66 (by decide) ?_
            exact ih_10 ((2147483647 - x_75.toInt).toNat) (by omega) x_75 L_j10 f_69 _ _ ls rfl ⟨by omega, by omega⟩ hWF hRP hKP hw (lv_sub hl [0, 2, 3, 4] rfl)
        refine lv_icmp_ne (tgt := 38) G0.1 G0.2.1 dX5_isRoomFor_27 (by decide) (fun c_76 => ?_) (fun c_76 => ?_)
        · skip
          have tc_76 := ti_ne c_76
          refine lv_aload_n G0.1 G0.2.1 dX5_isRoomFor_38 rfl (lv_at hl 2 rfl) ?_
          refine py_get (C := RX2) (T := TX2) (N := 12) (k := 1) (v := .ref (G.2 h 1)) G0 hw in_X5_isRoomFor_X2 rfl hr_25 (by decide) (by decide +kernel) rfl dX5_isRoomFor_39 ?_
          refine lv_iload_n G0.1 G0.2.1 dX5_isRoomFor_42 rfl (lv_at hl 0 rfl) ?_
          obtain ⟨g_77, ha_78, hi_79⟩ := wf_arr (n := 10) (lo := (-1)) (hi := 7) hWF t_12 (by omega) (wf_own1 E G _ h)
          have rg_80 : vp_in v_10 10 := ti_in (by omega) (by omega)
          refine py_iald G0 hw ha_78 rg_80 dX5_isRoomFor_43 ?_
          refine lv_topi (fun x_81 ex_81 => ?_)
          have bx_81 := ti_at hi_79 rg_80 ex_81
          exact jn_44 x_81 _ _ ls ⟨by omega, by omega⟩ hw (lv_sub hl [0, 1, 2, 3] rfl)
        · skip
          have tc_76 := ti_eq c_76
          refine lv_aload_n G0.1 G0.2.1 dX5_isRoomFor_30 rfl (lv_at hl 2 rfl) ?_
          refine lv_iload_n G0.1 G0.2.1 dX5_isRoomFor_31 rfl (lv_at hl 0 rfl) ?_
          refine py_calli hw (va_runV (As := [.int v_10]) (rest := []) G0 (c_X2_want l E G L_j10 f_j10 H_j10.size h v_10 hG hWF Th ⟨by omega, by omega⟩) (cwV 1 G0.2.2.2.2 g_X5_isRoomFor_X2_want_47 rfl rfl rfl (by decide +kernel) ⟨(Nat.le_of_ble_eq_true rfl), (Nat.le_of_ble_eq_true rfl)⟩) (py_preV hw (C := RX2) (T := TX2) (N := 12) rfl hr_25) rfl rfl hl.1 rfl (lv_room (Nat.le_of_ble_eq_true rfl)) dX5_isRoomFor_32 ⟨(Nat.le_of_ble_eq_true rfl), (Nat.le_of_ble_eq_true rfl)⟩) (fun r_86 L_82 f_83 H_84 locs hp_85 hw => ?_)
          obtain ⟨b_88, en_87, rfl, rfl⟩ := hp_85
          refine lv_goto (tgt := 44) G0.1 G0.2.1 dX5_isRoomFor_35 (by decide) ?_
          exact jn_44 r_86 _ _ ls ⟨by omega, by omega⟩ hw (lv_sub hl [0, 1, 2, 3] rfl)
  exact lo_10 _ 0 L_3 f_4 _ _ ls rfl ⟨by omega, by omega⟩ hWF hRP hKP hw (lv_sub hl [0, 1, 2, 3] rfl)

def w_X5_mostBits : List Cond := .code yX5_mostBits cX5_mostBits 6 (some .int) :: ([Cond.methodLink RX5 17 yX2_waitingBits, Cond.instanceMethod yX2_waitingBits, Cond.selects RX2 yX2_waitingBits yX2_waitingBits, Cond.initialized RX2, Cond.methodLink RX5 29 yX5_isRoomFor, Cond.instanceMethod yX5_isRoomFor, Cond.selects RX5 yX5_isRoomFor yX5_isRoomFor, Cond.initialized RX5, Cond.methodLink RX5 23 yJ6_bitCount_0f7a4, Cond.static yJ6_bitCount_0f7a4, Cond.initialized RJ6] ++ (w_X2_waitingBits ++ (w_X5_isRoomFor ++ (w_J6_bitCount_0f7a4 ++ ([])))))
theorem gg_X5_mostBits_X2_waitingBits : GoodIn w_X5_mostBits w_X2_waitingBits := goodIn_sub (fun _ h => List.mem_cons_of_mem _ (List.mem_append_right _ (List.mem_append_left _ h))) (by decide +kernel)
theorem gg_X5_mostBits_X5_isRoomFor : GoodIn w_X5_mostBits w_X5_isRoomFor := goodIn_sub (fun _ h => List.mem_cons_of_mem _ (List.mem_append_right _ (List.mem_append_right _ (List.mem_append_left _ h)))) (by decide +kernel)
theorem gg_X5_mostBits_J6_bitCount_0f7a4 : GoodIn w_X5_mostBits w_J6_bitCount_0f7a4 := goodIn_sub (fun _ h => List.mem_cons_of_mem _ (List.mem_append_right _ (List.mem_append_right _ (List.mem_append_right _ (List.mem_append_left _ h))))) (by decide +kernel)
theorem g_X5_mostBits_J6_bitCount_0f7a4_23 : GoodIn w_X5_mostBits (va_wsS RX5 23 yJ6_bitCount_0f7a4 w_J6_bitCount_0f7a4) := goodIn_app (goodIn_of _ (by decide +kernel)) gg_X5_mostBits_J6_bitCount_0f7a4
theorem g_X5_mostBits_X2_waitingBits_17 : GoodIn w_X5_mostBits (wsV RX5 17 RX2 yX2_waitingBits w_X2_waitingBits) := goodIn_app (goodIn_of _ (by decide +kernel)) gg_X5_mostBits_X2_waitingBits
theorem g_X5_mostBits_X5_isRoomFor_29 : GoodIn w_X5_mostBits (wsV RX5 29 RX5 yX5_isRoomFor w_X5_isRoomFor) := goodIn_app (goodIn_of _ (by decide +kernel)) gg_X5_mostBits_X5_isRoomFor
set_option maxHeartbeats 4000000 in
set_option maxRecDepth 100000 in
theorem c_X5_mostBits (l : Launch) (E : py_E) (G : wf_G) (L : List Nat) (f : py_F) (sz : Nat) (z : Nat) (h : Nat) (hG : GT G) (hWF : WF E G L f) (Tz : G.1 z = 6) (Th : G.1 h = 3) : Met l yX5_mostBits w_X5_mostBits ({ frames := 4, cells := 0, slots := 0, locals := 89 }) (py_Pc E [.ref z, .ref h] L f sz) (py_Qi E L f sz (fun _ L1 f1 => WF E G L1 f1 ∧ RP E G f f1 ∧ KP G [24] false f f1)) 0 0 (va_A (va_pl L f) sz) := by
  refine Met.ofW (cc := cX5_mostBits) (maxL := 6) (ret := (some .int)) (by decide) rfl ?_
  intro p e s m args below meth c s₁ B hml hv
  obtain ⟨rfl, rfl, hw⟩ := py_start hv
  have G0 : CallFix p m c cX5_mostBits 6 s _ w_X5_mostBits RX5 := ⟨B.exec, B.bytes, hml, findClass_of_methodNamed B.named, atoms_spec (ws := w_X5_mostBits) B.pre⟩
  have hr := B.returns
  have hlk := B.notSynchronized
  have kcm1 : (-1 : Int32).toInt = -1 := rfl
  have kc0 : (0 : Int32).toInt = 0 := rfl
  have kc1 : (1 : Int32).toInt = 1 := rfl
  have hl := lv_entry ([.ref z, .ref h]) (n := 6) (Nat.le_of_ble_eq_true rfl)
  rw [lg_entry_eq]
  generalize (lg_sl ([.ref z, .ref h]) ++ List.replicate (6 - (lg_sl ([.ref z, .ref h])).length) Slot.unset).toArray = ls at hl ⊢
  have hl : lv_has ls 6 [(0, .ref z), (1, .ref h)] := hl
  have hRP : RP E G f f := RP.refl
  have hKP : KP G [24] false f f := KP.refl
  refine lv_aload_n G0.1 G0.2.1 dX5_mostBits_0 rfl (lv_at hl 1 rfl) ?_
  obtain ⟨t_1, t_2, t_3, t_4, t_5, t_6, t_7, t_8, t_9⟩ := wt_2 hG Th
  obtain ⟨r_10, y_11, v_12, hr_15, ty_13, b_14⟩ := wg_2 hWF Th
  refine py_calli hw (va_runV (As := []) (rest := []) G0 (c_X2_waitingBits l E G L f s.heap.size h hG hWF Th) (cwV 0 G0.2.2.2.2 g_X5_mostBits_X2_waitingBits_17 rfl rfl rfl (by decide +kernel) ⟨(Nat.le_of_ble_eq_true rfl), (Nat.le_of_ble_eq_true rfl)⟩) (py_preV hw (C := RX2) (T := TX2) (N := 12) rfl hr_15) rfl rfl hl.1 rfl (lv_room (Nat.le_of_ble_eq_true rfl)) dX5_mostBits_1 ⟨(Nat.le_of_ble_eq_true rfl), (Nat.le_of_ble_eq_true rfl)⟩) (fun r_20 L_16 f_17 H_18 locs hp_19 hw => ?_)
  obtain ⟨b_21, rfl, rfl⟩ := hp_19
  refine lv_istore_n (lv' := [(2, .int r_20), (0, .ref z), (1, .ref h)]) G0.1 G0.2.1 dX5_mostBits_4 rfl hl (by decide) rfl (fun ls hl => ?_)
  refine lv_iconst (v := 0) G0.1 G0.2.1 dX5_mostBits_5 (by decide) ?_
  refine lv_istore_n (lv' := [(3, .int 0), (2, .int r_20), (0, .ref z), (1, .ref h)]) G0.1 G0.2.1 dX5_mostBits_6 rfl hl (by decide) rfl (fun ls hl => ?_)
  refine lv_iconst (v := 1) G0.1 G0.2.1 dX5_mostBits_7 (by decide) ?_
  refine lv_istore (lv' := [(4, .int 1), (3, .int 0), (2, .int r_20), (0, .ref z), (1, .ref h)]) G0.1 G0.2.1 dX5_mostBits_8 hl (by decide) rfl (fun ls hl => ?_)
  have lo_10 : ∀ n_10 : Nat, ∀ (v_22 : Int32) (v_23 : Int32) (L_j10 : List Nat) (f_j10 : py_F) (H_j10 : Heap) (locs : List Loc) (ls : Array Slot), (2147483647 - v_22.toInt).toNat = n_10 → (1 ≤ v_22.toInt ∧ v_22.toInt ≤ 2147483647) → WF E G L_j10 f_j10 → RP E G f f_j10 → KP G [24] false f f_j10 → py_W E (va_A (va_pl L f) s.heap.size) s L_j10 f_j10 H_j10 locs → lv_has ls 6 [(4, .int v_22), (3, .int v_23), (2, .int r_20), (0, .ref z), (1, .ref h)] → W p l e (headSpec w_X5_mostBits ({ frames := 4, cells := 0, slots := 0, locals := 89 })).room s m ([.ref z, .ref h] : List Value).toArray below meth c H_j10 locs 0 0 (MQ below (py_Qi E L f s.heap.size (fun _ L1 f1 => WF E G L1 f1 ∧ RP E G f f1 ∧ KP G [24] false f f1)) ([.ref z, .ref h] : List Value).toArray s 0 0 (va_A (va_pl L f) s.heap.size)) (F0 m 10 ls []) := by
    intro n_10
    induction n_10 using Nat.strongRecOn with
    | _ n_10 ih_10 =>
      intro v_22 v_23 L_j10 f_j10 H_j10 locs ls hn_10 bv_22 hWF hRP hKP hw hl
      refine lv_iload G0.1 G0.2.1 dX5_mostBits_10 (lv_at hl 0 rfl) ?_
      refine lv_iload_n G0.1 G0.2.1 dX5_mostBits_12 rfl (lv_at hl 2 rfl) ?_
      refine lv_icmp_gt (tgt := 68) G0.1 G0.2.1 dX5_mostBits_13 (by decide) (fun c_24 => ?_) (fun c_24 => ?_)
      · skip
        have tc_24 := ti_lt c_24
        refine lv_iload_n G0.1 G0.2.1 dX5_mostBits_68 rfl (lv_at hl 1 rfl) ?_
        exact py_iret G0 hr rfl hlk hw ⟨hWF, hRP, hKP⟩ dX5_mostBits_69
      · skip
        have tc_24 := ti_nlt c_24
        refine lv_iload G0.1 G0.2.1 dX5_mostBits_16 (lv_at hl 0 rfl) ?_
        refine lv_iload_n G0.1 G0.2.1 dX5_mostBits_18 rfl (lv_at hl 2 rfl) ?_
        refine lv_iconst (v := (-1)) G0.1 G0.2.1 dX5_mostBits_19 (by decide) ?_
        refine lv_ixor G0.1 G0.2.1 dX5_mostBits_20 ?_
        refine lv_topi (fun x_25 ex_25 => ?_)
        refine lv_iand G0.1 G0.2.1 dX5_mostBits_21 ?_
        refine lv_topi (fun x_26 ex_26 => ?_)
        have jn_42 : ∀ (v_27 : Int32) (H_j42 : Heap) (locs : List Loc) (ls : Array Slot), (0 ≤ v_27.toInt ∧ v_27.toInt ≤ 1) → py_W E (va_A (va_pl L f) s.heap.size) s L_j10 f_j10 H_j42 locs → lv_has ls 6 [(4, .int v_22), (3, .int v_23), (2, .int r_20), (0, .ref z), (1, .ref h)] → W p l e (headSpec w_X5_mostBits ({ frames := 4, cells := 0, slots := 0, locals := 89 })).room s m ([.ref z, .ref h] : List Value).toArray below meth c H_j42 locs 0 0 (MQ below (py_Qi E L f s.heap.size (fun _ L1 f1 => WF E G L1 f1 ∧ RP E G f f1 ∧ KP G [24] false f f1)) ([.ref z, .ref h] : List Value).toArray s 0 0 (va_A (va_pl L f) s.heap.size)) (F0 m 42 ls [.int v_27]) := by
          intro v_27 H_j42 locs ls bv_27 hw hl
          refine lv_istore (lv' := [(5, .int v_27), (4, .int v_22), (3, .int v_23), (2, .int r_20), (0, .ref z), (1, .ref h)]) G0.1 G0.2.1 dX5_mostBits_42 hl (by decide) rfl (fun ls hl => ?_)
          refine lv_iload G0.1 G0.2.1 dX5_mostBits_44 (lv_at hl 0 rfl) ?_
          have jn_62 : ∀ (v_28 : Int32) (L_j62 : List Nat) (f_j62 : py_F) (H_j62 : Heap) (locs : List Loc) (ls : Array Slot), WF E G L_j62 f_j62 → RP E G f f_j62 → KP G [24] false f f_j62 → py_W E (va_A (va_pl L f) s.heap.size) s L_j62 f_j62 H_j62 locs → lv_has ls 6 [(5, .int v_27), (4, .int v_22), (3, .int v_28), (2, .int r_20), (0, .ref z), (1, .ref h)] → W p l e (headSpec w_X5_mostBits ({ frames := 4, cells := 0, slots := 0, locals := 89 })).room s m ([.ref z, .ref h] : List Value).toArray below meth c H_j62 locs 0 0 (MQ below (py_Qi E L f s.heap.size (fun _ L1 f1 => WF E G L1 f1 ∧ RP E G f f1 ∧ KP G [24] false f f1)) ([.ref z, .ref h] : List Value).toArray s 0 0 (va_A (va_pl L f) s.heap.size)) (F0 m 62 ls []) := by
            intro v_28 L_j62 f_j62 H_j62 locs ls hWF hRP hKP hw hl
            obtain ⟨x_29, ex_29⟩ : ∃ y : Int32, y = v_22 + 1 := ⟨_, rfl⟩
            first | have tx_29 := ti_add ex_29 (by omega) (by omega) | skip
            refine lv_iinc (v := x_29) (lv' := [(4, .int x_29), (5, .int v_27), (3, .int v_28), (2, .int r_20), (0, .ref z), (1, .ref h)]) G0.1 G0.2.1 dX5_mostBits_62 hl (k := 1) rfl (show _ + (1 : Int32) = _ from ex_29.symm) (by decide) rfl (fun ls hl => ?_)
            refine lv_goto (tgt := 10) G0.1 G0.2.1 dX5_mostBits_65 (by decide) ?_
            exact ih_10 ((2147483647 - x_29.toInt).toNat) (by omega) x_29 v_28 L_j62 f_j62 _ _ ls rfl ⟨by omega, by omega⟩ hWF hRP hKP hw (lv_sub hl [0, 2, 3, 4, 5] rfl)
          refine lv_if_eq (tgt := 62) G0.1 G0.2.1 dX5_mostBits_46 (by decide) (fun c_30 => ?_) (fun c_30 => ?_)
          · skip
            have tc_30 := ti_eq c_30
            exact jn_62 v_23 L_j10 f_j10 _ _ ls hWF hRP hKP hw (lv_sub hl [0, 1, 2, 3, 4, 5] rfl)
          · skip
            have tc_30 := ti_ne c_30
            refine lv_aload_n G0.1 G0.2.1 dX5_mostBits_49 rfl (lv_at hl 4 rfl) ?_
            refine lv_aload_n G0.1 G0.2.1 dX5_mostBits_50 rfl (lv_at hl 5 rfl) ?_
            refine lv_iload G0.1 G0.2.1 dX5_mostBits_51 (lv_at hl 1 rfl) ?_
            have t_31 := wt_5 hG Tz
            have hr_32 := wg_5 hWF Tz
            refine py_calli hw (va_runV (As := [.ref h, .int v_22]) (rest := []) G0 (c_X5_isRoomFor l E G L_j10 f_j10 H_j42.size z h v_22 hG hWF Tz Th) (cwV 2 G0.2.2.2.2 g_X5_mostBits_X5_isRoomFor_29 rfl rfl rfl (by decide +kernel) ⟨(Nat.le_of_ble_eq_true rfl), (Nat.le_of_ble_eq_true rfl)⟩) (py_preV hw (C := RX5) (T := TX5) (N := 1) rfl hr_32) rfl rfl hl.1 rfl (lv_room (Nat.le_of_ble_eq_true rfl)) dX5_mostBits_53 ⟨(Nat.le_of_ble_eq_true rfl), (Nat.le_of_ble_eq_true rfl)⟩) (fun r_37 L_33 f_34 H_35 locs hp_36 hw => ?_)
            obtain ⟨b_38, hWF, hq_39, kp_40⟩ := hp_36
            have hRP := hRP.trans hq_39
            have hKP := hKP.trans kp_40 (by decide) (by decide)
            have hr_32 := kp_at kp_40 hWF Tz (by decide) (by decide) (by decide) hr_32
            refine lv_if_eq (tgt := 62) G0.1 G0.2.1 dX5_mostBits_56 (by decide) (fun c_41 => ?_) (fun c_41 => ?_)
            · skip
              have tc_41 := ti_eq c_41
              exact jn_62 v_23 L_33 f_34 _ _ ls hWF hRP hKP hw (lv_sub hl [0, 1, 2, 3, 4, 5] rfl)
            · skip
              have tc_41 := ti_ne c_41
              refine lv_iload G0.1 G0.2.1 dX5_mostBits_59 (lv_at hl 1 rfl) ?_
              refine lv_istore_n (lv' := [(3, .int v_22), (5, .int v_27), (4, .int v_22), (2, .int r_20), (0, .ref z), (1, .ref h)]) G0.1 G0.2.1 dX5_mostBits_61 rfl hl (by decide) rfl (fun ls hl => ?_)
              exact jn_62 v_22 L_33 f_34 _ _ ls hWF hRP hKP hw (lv_sub hl [1, 2, 0, 3, 4, 5] rfl)
        refine lv_if_ne (tgt := 41) G0.1 G0.2.1 dX5_mostBits_22 (by decide) (fun c_42 => ?_) (fun c_42 => ?_)
        · skip
          have tc_42 := ti_ne c_42
          refine lv_iconst (v := 0) G0.1 G0.2.1 dX5_mostBits_41 (by decide) ?_
          exact jn_42 0 _ _ ls ⟨by omega, by omega⟩ hw (lv_sub hl [0, 1, 2, 3, 4] rfl)
        · skip
          have tc_42 := ti_eq c_42
          refine lv_iload G0.1 G0.2.1 dX5_mostBits_25 (lv_at hl 0 rfl) ?_
          refine py_calli hw (va_runS (As := [.int v_22]) (rest := []) G0 (c_J6_bitCount_0f7a4 l E G L_j10 f_j10 H_j10.size v_22 hG hWF) (va_cwS 1 G0.2.2.2.2 g_X5_mostBits_J6_bitCount_0f7a4_23 rfl rfl rfl (by decide +kernel) ⟨(Nat.le_of_ble_eq_true rfl), (Nat.le_of_ble_eq_true rfl)⟩) (py_preS hw) rfl rfl hl.1 rfl (lv_room (Nat.le_of_ble_eq_true rfl)) dX5_mostBits_27 ⟨(Nat.le_of_ble_eq_true rfl), (Nat.le_of_ble_eq_true rfl)⟩) (fun r_47 L_43 f_44 H_45 locs hp_46 hw => ?_)
          obtain ⟨rfl, rfl⟩ := hp_46
          have br_47 := wf_free r_47
          refine lv_iload_n G0.1 G0.2.1 dX5_mostBits_30 rfl (lv_at hl 1 rfl) ?_
          refine py_calli hw (va_runS (As := [.int v_23]) (rest := [.int r_47]) G0 (c_J6_bitCount_0f7a4 l E G L_j10 f_j10 H_45.size v_23 hG hWF) (va_cwS 1 G0.2.2.2.2 g_X5_mostBits_J6_bitCount_0f7a4_23 rfl rfl rfl (by decide +kernel) ⟨(Nat.le_of_ble_eq_true rfl), (Nat.le_of_ble_eq_true rfl)⟩) (py_preS hw) rfl rfl hl.1 rfl (lv_room (Nat.le_of_ble_eq_true rfl)) dX5_mostBits_31 ⟨(Nat.le_of_ble_eq_true rfl), (Nat.le_of_ble_eq_true rfl)⟩) (fun r_52 L_48 f_49 H_50 locs hp_51 hw => ?_)
          obtain ⟨rfl, rfl⟩ := hp_51
          have br_52 := wf_free r_52
          refine lv_icmp_le (tgt := 41) G0.1 G0.2.1 dX5_mostBits_34 (by decide) (fun c_53 => ?_) (fun c_53 => ?_)
          · skip
            have tc_53 := ti_le c_53
            refine lv_iconst (v := 0) G0.1 G0.2.1 dX5_mostBits_41 (by decide) ?_
            exact jn_42 0 _ _ ls ⟨by omega, by omega⟩ hw (lv_sub hl [0, 1, 2, 3, 4] rfl)
          · skip
            have tc_53 := ti_nle c_53
            refine lv_iconst (v := 1) G0.1 G0.2.1 dX5_mostBits_37 (by decide) ?_
            refine lv_goto (tgt := 42) G0.1 G0.2.1 dX5_mostBits_38 (by decide) ?_
            exact jn_42 1 _ _ ls ⟨by omega, by omega⟩ hw (lv_sub hl [0, 1, 2, 3, 4] rfl)
  exact lo_10 _ 1 0 L f _ _ ls rfl ⟨by omega, by omega⟩ hWF hRP hKP hw (lv_sub hl [0, 1, 2, 3, 4] rfl)
