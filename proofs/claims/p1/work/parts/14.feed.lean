theorem dX11_feed_0 : decode cX11_feed 0 = .ok (.iload_n 1, 1) := by decide +kernel
theorem dX11_feed_1 : decode cX11_feed 1 = .ok (.invokestatic 105, 3) := by decide +kernel
theorem dX11_feed_4 : decode cX11_feed 4 = .ok (.iload_n 2, 1) := by decide +kernel
theorem dX11_feed_5 : decode cX11_feed 5 = .ok (.invokestatic 105, 3) := by decide +kernel
theorem dX11_feed_8 : decode cX11_feed 8 = .ok (.iadd, 1) := by decide +kernel
theorem dX11_feed_9 : decode cX11_feed 9 = .ok (.iload_n 3, 1) := by decide +kernel
theorem dX11_feed_10 : decode cX11_feed 10 = .ok (.invokestatic 105, 3) := by decide +kernel
theorem dX11_feed_13 : decode cX11_feed 13 = .ok (.iadd, 1) := by decide +kernel
theorem dX11_feed_14 : decode cX11_feed 14 = .ok (.iload 4, 2) := by decide +kernel
theorem dX11_feed_16 : decode cX11_feed 16 = .ok (.invokestatic 105, 3) := by decide +kernel
theorem dX11_feed_19 : decode cX11_feed 19 = .ok (.iadd, 1) := by decide +kernel
theorem dX11_feed_20 : decode cX11_feed 20 = .ok (.iload 5, 2) := by decide +kernel
theorem dX11_feed_22 : decode cX11_feed 22 = .ok (.invokestatic 105, 3) := by decide +kernel
theorem dX11_feed_25 : decode cX11_feed 25 = .ok (.iadd, 1) := by decide +kernel
theorem dX11_feed_26 : decode cX11_feed 26 = .ok (.istore 6, 2) := by decide +kernel
theorem dX11_feed_28 : decode cX11_feed 28 = .ok (.aload_n 0, 1) := by decide +kernel
theorem dX11_feed_29 : decode cX11_feed 29 = .ok (.getfield 10, 3) := by decide +kernel
theorem dX11_feed_32 : decode cX11_feed 32 = .ok (.getfield 109, 3) := by decide +kernel
theorem dX11_feed_35 : decode cX11_feed 35 = .ok (.iload 6, 2) := by decide +kernel
theorem dX11_feed_37 : decode cX11_feed 37 = .ok (.iadd, 1) := by decide +kernel
theorem dX11_feed_38 : decode cX11_feed 38 = .ok (.sipush 160, 3) := by decide +kernel
theorem dX11_feed_41 : decode cX11_feed 41 = .ok (.if_icmp .le 5, 3) := by decide +kernel
theorem dX11_feed_46 : decode cX11_feed 46 = .ok (.aload_n 0, 1) := by decide +kernel
theorem dX11_feed_47 : decode cX11_feed 47 = .ok (.getfield 10, 3) := by decide +kernel
theorem dX11_feed_50 : decode cX11_feed 50 = .ok (.iload_n 1, 1) := by decide +kernel
theorem dX11_feed_51 : decode cX11_feed 51 = .ok (.invokevirtual 112, 3) := by decide +kernel
theorem dX11_feed_54 : decode cX11_feed 54 = .ok (.aload_n 0, 1) := by decide +kernel
theorem dX11_feed_55 : decode cX11_feed 55 = .ok (.getfield 10, 3) := by decide +kernel
theorem dX11_feed_58 : decode cX11_feed 58 = .ok (.iload_n 2, 1) := by decide +kernel
theorem dX11_feed_59 : decode cX11_feed 59 = .ok (.invokevirtual 112, 3) := by decide +kernel
theorem dX11_feed_62 : decode cX11_feed 62 = .ok (.aload_n 0, 1) := by decide +kernel
theorem dX11_feed_63 : decode cX11_feed 63 = .ok (.getfield 10, 3) := by decide +kernel
theorem dX11_feed_66 : decode cX11_feed 66 = .ok (.iload_n 3, 1) := by decide +kernel
theorem dX11_feed_67 : decode cX11_feed 67 = .ok (.invokevirtual 112, 3) := by decide +kernel
theorem dX11_feed_70 : decode cX11_feed 70 = .ok (.aload_n 0, 1) := by decide +kernel
theorem dX11_feed_71 : decode cX11_feed 71 = .ok (.getfield 10, 3) := by decide +kernel
theorem dX11_feed_74 : decode cX11_feed 74 = .ok (.iload 4, 2) := by decide +kernel
theorem dX11_feed_76 : decode cX11_feed 76 = .ok (.invokevirtual 112, 3) := by decide +kernel
theorem dX11_feed_79 : decode cX11_feed 79 = .ok (.aload_n 0, 1) := by decide +kernel
theorem dX11_feed_80 : decode cX11_feed 80 = .ok (.getfield 10, 3) := by decide +kernel
theorem dX11_feed_83 : decode cX11_feed 83 = .ok (.iload 5, 2) := by decide +kernel
theorem dX11_feed_85 : decode cX11_feed 85 = .ok (.invokevirtual 112, 3) := by decide +kernel
theorem dX11_feed_88 : decode cX11_feed 88 = .ok (.aload_n 0, 1) := by decide +kernel
theorem dX11_feed_89 : decode cX11_feed 89 = .ok (.getfield 10, 3) := by decide +kernel
theorem dX11_feed_92 : decode cX11_feed 92 = .ok (.getfield 109, 3) := by decide +kernel
theorem dX11_feed_95 : decode cX11_feed 95 = .ok (.ireturn, 1) := by decide +kernel
theorem dX12_byteOf_0 : decode cX12_byteOf 0 = .ok (.iload 5, 2) := by decide +kernel
theorem dX12_byteOf_2 : decode cX12_byteOf 2 = .ok (.iconst 4, 1) := by decide +kernel
theorem dX12_byteOf_3 : decode cX12_byteOf 3 = .ok (.if_icmp .ge 7, 3) := by decide +kernel
theorem dX12_byteOf_6 : decode cX12_byteOf 6 = .ok (.iload_n 0, 1) := by decide +kernel
theorem dX12_byteOf_7 : decode cX12_byteOf 7 = .ok (.goto 38, 3) := by decide +kernel
theorem dX12_byteOf_10 : decode cX12_byteOf 10 = .ok (.iload 5, 2) := by decide +kernel
theorem dX12_byteOf_12 : decode cX12_byteOf 12 = .ok (.bipush 8, 2) := by decide +kernel
theorem dX12_byteOf_14 : decode cX12_byteOf 14 = .ok (.if_icmp .ge 7, 3) := by decide +kernel
theorem dX12_byteOf_17 : decode cX12_byteOf 17 = .ok (.iload_n 1, 1) := by decide +kernel
theorem dX12_byteOf_18 : decode cX12_byteOf 18 = .ok (.goto 27, 3) := by decide +kernel
theorem dX12_byteOf_21 : decode cX12_byteOf 21 = .ok (.iload 5, 2) := by decide +kernel
theorem dX12_byteOf_23 : decode cX12_byteOf 23 = .ok (.bipush 12, 2) := by decide +kernel
theorem dX12_byteOf_25 : decode cX12_byteOf 25 = .ok (.if_icmp .ge 7, 3) := by decide +kernel
theorem dX12_byteOf_28 : decode cX12_byteOf 28 = .ok (.iload_n 2, 1) := by decide +kernel
theorem dX12_byteOf_29 : decode cX12_byteOf 29 = .ok (.goto 16, 3) := by decide +kernel
theorem dX12_byteOf_32 : decode cX12_byteOf 32 = .ok (.iload 5, 2) := by decide +kernel
theorem dX12_byteOf_34 : decode cX12_byteOf 34 = .ok (.bipush 16, 2) := by decide +kernel
theorem dX12_byteOf_36 : decode cX12_byteOf 36 = .ok (.if_icmp .ge 7, 3) := by decide +kernel
theorem dX12_byteOf_39 : decode cX12_byteOf 39 = .ok (.iload_n 3, 1) := by decide +kernel
theorem dX12_byteOf_40 : decode cX12_byteOf 40 = .ok (.goto 5, 3) := by decide +kernel
theorem dX12_byteOf_43 : decode cX12_byteOf 43 = .ok (.iload 4, 2) := by decide +kernel
theorem dX12_byteOf_45 : decode cX12_byteOf 45 = .ok (.istore 6, 2) := by decide +kernel
theorem dX12_byteOf_47 : decode cX12_byteOf 47 = .ok (.iload 6, 2) := by decide +kernel
theorem dX12_byteOf_49 : decode cX12_byteOf 49 = .ok (.bipush 24, 2) := by decide +kernel
theorem dX12_byteOf_51 : decode cX12_byteOf 51 = .ok (.bipush 8, 2) := by decide +kernel
theorem dX12_byteOf_53 : decode cX12_byteOf 53 = .ok (.iload 5, 2) := by decide +kernel
theorem dX12_byteOf_55 : decode cX12_byteOf 55 = .ok (.iconst 4, 1) := by decide +kernel
theorem dX12_byteOf_56 : decode cX12_byteOf 56 = .ok (.irem, 1) := by decide +kernel
theorem dX12_byteOf_57 : decode cX12_byteOf 57 = .ok (.imul, 1) := by decide +kernel
theorem dX12_byteOf_58 : decode cX12_byteOf 58 = .ok (.isub, 1) := by decide +kernel
theorem dX12_byteOf_59 : decode cX12_byteOf 59 = .ok (.ishr, 1) := by decide +kernel
theorem dX12_byteOf_60 : decode cX12_byteOf 60 = .ok (.sipush 255, 3) := by decide +kernel
theorem dX12_byteOf_63 : decode cX12_byteOf 63 = .ok (.iand, 1) := by decide +kernel
theorem dX12_byteOf_64 : decode cX12_byteOf 64 = .ok (.ireturn, 1) := by decide +kernel
theorem dX12_feed_0 : decode cX12_feed 0 = .ok (.iconst 0, 1) := by decide +kernel
theorem dX12_feed_1 : decode cX12_feed 1 = .ok (.istore 6, 2) := by decide +kernel
theorem dX12_feed_3 : decode cX12_feed 3 = .ok (.iconst 0, 1) := by decide +kernel
theorem dX12_feed_4 : decode cX12_feed 4 = .ok (.istore 7, 2) := by decide +kernel
theorem dX12_feed_6 : decode cX12_feed 6 = .ok (.iload 7, 2) := by decide +kernel
theorem dX12_feed_8 : decode cX12_feed 8 = .ok (.bipush 20, 2) := by decide +kernel
theorem dX12_feed_10 : decode cX12_feed 10 = .ok (.if_icmp .ge 34, 3) := by decide +kernel
theorem dX12_feed_13 : decode cX12_feed 13 = .ok (.iload 6, 2) := by decide +kernel
theorem dX12_feed_15 : decode cX12_feed 15 = .ok (.iload_n 1, 1) := by decide +kernel
theorem dX12_feed_16 : decode cX12_feed 16 = .ok (.iload_n 2, 1) := by decide +kernel
theorem dX12_feed_17 : decode cX12_feed 17 = .ok (.iload_n 3, 1) := by decide +kernel
theorem dX12_feed_18 : decode cX12_feed 18 = .ok (.iload 4, 2) := by decide +kernel
theorem dX12_feed_20 : decode cX12_feed 20 = .ok (.iload 5, 2) := by decide +kernel
theorem dX12_feed_22 : decode cX12_feed 22 = .ok (.iload 7, 2) := by decide +kernel
theorem dX12_feed_24 : decode cX12_feed 24 = .ok (.invokestatic 120, 3) := by decide +kernel
theorem dX12_feed_27 : decode cX12_feed 27 = .ok (.ifCond .eq 7, 3) := by decide +kernel
theorem dX12_feed_30 : decode cX12_feed 30 = .ok (.iconst 1, 1) := by decide +kernel
theorem dX12_feed_31 : decode cX12_feed 31 = .ok (.goto 4, 3) := by decide +kernel
theorem dX12_feed_34 : decode cX12_feed 34 = .ok (.iconst 0, 1) := by decide +kernel
theorem dX12_feed_35 : decode cX12_feed 35 = .ok (.iadd, 1) := by decide +kernel
theorem dX12_feed_36 : decode cX12_feed 36 = .ok (.istore 6, 2) := by decide +kernel
theorem dX12_feed_38 : decode cX12_feed 38 = .ok (.iinc 7 1, 3) := by decide +kernel
theorem dX12_feed_41 : decode cX12_feed 41 = .ok (.goto (-35), 3) := by decide +kernel
theorem dX12_feed_44 : decode cX12_feed 44 = .ok (.aload_n 0, 1) := by decide +kernel
theorem dX12_feed_45 : decode cX12_feed 45 = .ok (.getfield 124, 3) := by decide +kernel
theorem dX12_feed_48 : decode cX12_feed 48 = .ok (.iload 6, 2) := by decide +kernel
theorem dX12_feed_50 : decode cX12_feed 50 = .ok (.iadd, 1) := by decide +kernel
theorem dX12_feed_51 : decode cX12_feed 51 = .ok (.sipush 160, 3) := by decide +kernel
theorem dX12_feed_54 : decode cX12_feed 54 = .ok (.if_icmp .le 5, 3) := by decide +kernel
theorem dX12_feed_59 : decode cX12_feed 59 = .ok (.iconst 0, 1) := by decide +kernel
theorem dX12_feed_60 : decode cX12_feed 60 = .ok (.istore 7, 2) := by decide +kernel
theorem dX12_feed_62 : decode cX12_feed 62 = .ok (.iload 7, 2) := by decide +kernel
theorem dX12_feed_64 : decode cX12_feed 64 = .ok (.bipush 20, 2) := by decide +kernel
theorem dX12_feed_66 : decode cX12_feed 66 = .ok (.if_icmp .ge 49, 3) := by decide +kernel
theorem dX12_feed_69 : decode cX12_feed 69 = .ok (.iload_n 1, 1) := by decide +kernel
theorem dX12_feed_70 : decode cX12_feed 70 = .ok (.iload_n 2, 1) := by decide +kernel
theorem dX12_feed_71 : decode cX12_feed 71 = .ok (.iload_n 3, 1) := by decide +kernel
theorem dX12_feed_72 : decode cX12_feed 72 = .ok (.iload 4, 2) := by decide +kernel
theorem dX12_feed_74 : decode cX12_feed 74 = .ok (.iload 5, 2) := by decide +kernel
theorem dX12_feed_76 : decode cX12_feed 76 = .ok (.iload 7, 2) := by decide +kernel
theorem dX12_feed_78 : decode cX12_feed 78 = .ok (.invokestatic 120, 3) := by decide +kernel
theorem dX12_feed_81 : decode cX12_feed 81 = .ok (.istore 8, 2) := by decide +kernel
theorem dX12_feed_83 : decode cX12_feed 83 = .ok (.iload 8, 2) := by decide +kernel
theorem dX12_feed_85 : decode cX12_feed 85 = .ok (.ifCond .eq 24, 3) := by decide +kernel
theorem dX12_feed_88 : decode cX12_feed 88 = .ok (.aload_n 0, 1) := by decide +kernel
theorem dX12_feed_89 : decode cX12_feed 89 = .ok (.getfield 9, 3) := by decide +kernel
theorem dX12_feed_92 : decode cX12_feed 92 = .ok (.aload_n 0, 1) := by decide +kernel
theorem dX12_feed_93 : decode cX12_feed 93 = .ok (.getfield 124, 3) := by decide +kernel
theorem dX12_feed_96 : decode cX12_feed 96 = .ok (.iload 8, 2) := by decide +kernel
theorem dX12_feed_98 : decode cX12_feed 98 = .ok (.iastore, 1) := by decide +kernel
theorem dX12_feed_99 : decode cX12_feed 99 = .ok (.aload_n 0, 1) := by decide +kernel
theorem dX12_feed_100 : decode cX12_feed 100 = .ok (.dup, 1) := by decide +kernel
theorem dX12_feed_101 : decode cX12_feed 101 = .ok (.getfield 124, 3) := by decide +kernel
theorem dX12_feed_104 : decode cX12_feed 104 = .ok (.iconst 1, 1) := by decide +kernel
theorem dX12_feed_105 : decode cX12_feed 105 = .ok (.iadd, 1) := by decide +kernel
theorem dX12_feed_106 : decode cX12_feed 106 = .ok (.putfield 124, 3) := by decide +kernel
theorem dX12_feed_109 : decode cX12_feed 109 = .ok (.iinc 7 1, 3) := by decide +kernel
theorem dX12_feed_112 : decode cX12_feed 112 = .ok (.goto (-50), 3) := by decide +kernel
theorem dX12_feed_115 : decode cX12_feed 115 = .ok (.aload_n 0, 1) := by decide +kernel
theorem dX12_feed_116 : decode cX12_feed 116 = .ok (.getfield 124, 3) := by decide +kernel
theorem dX12_feed_119 : decode cX12_feed 119 = .ok (.ireturn, 1) := by decide +kernel
theorem dX8_append_0 : decode cX8_append 0 = .ok (.bipush 24, 2) := by decide +kernel
theorem dX8_append_2 : decode cX8_append 2 = .ok (.istore_n 2, 1) := by decide +kernel
theorem dX8_append_3 : decode cX8_append 3 = .ok (.iload_n 2, 1) := by decide +kernel
theorem dX8_append_4 : decode cX8_append 4 = .ok (.ifCond .lt 51, 3) := by decide +kernel
theorem dX8_append_7 : decode cX8_append 7 = .ok (.iload_n 1, 1) := by decide +kernel
theorem dX8_append_8 : decode cX8_append 8 = .ok (.iload_n 2, 1) := by decide +kernel
theorem dX8_append_9 : decode cX8_append 9 = .ok (.iushr, 1) := by decide +kernel
theorem dX8_append_10 : decode cX8_append 10 = .ok (.sipush 255, 3) := by decide +kernel
theorem dX8_append_13 : decode cX8_append 13 = .ok (.iand, 1) := by decide +kernel
theorem dX8_append_14 : decode cX8_append 14 = .ok (.istore_n 3, 1) := by decide +kernel
theorem dX8_append_15 : decode cX8_append 15 = .ok (.iload_n 3, 1) := by decide +kernel
theorem dX8_append_16 : decode cX8_append 16 = .ok (.ifCond .eq 33, 3) := by decide +kernel
theorem dX8_append_19 : decode cX8_append 19 = .ok (.aload_n 0, 1) := by decide +kernel
theorem dX8_append_20 : decode cX8_append 20 = .ok (.getfield 13, 3) := by decide +kernel
theorem dX8_append_23 : decode cX8_append 23 = .ok (.sipush 160, 3) := by decide +kernel
theorem dX8_append_26 : decode cX8_append 26 = .ok (.if_icmp .ge 23, 3) := by decide +kernel
theorem dX8_append_29 : decode cX8_append 29 = .ok (.aload_n 0, 1) := by decide +kernel
theorem dX8_append_30 : decode cX8_append 30 = .ok (.getfield 9, 3) := by decide +kernel
theorem dX8_append_33 : decode cX8_append 33 = .ok (.aload_n 0, 1) := by decide +kernel
theorem dX8_append_34 : decode cX8_append 34 = .ok (.getfield 13, 3) := by decide +kernel
theorem dX8_append_37 : decode cX8_append 37 = .ok (.iload_n 3, 1) := by decide +kernel
theorem dX8_append_38 : decode cX8_append 38 = .ok (.iastore, 1) := by decide +kernel
theorem dX8_append_39 : decode cX8_append 39 = .ok (.aload_n 0, 1) := by decide +kernel
theorem dX8_append_40 : decode cX8_append 40 = .ok (.dup, 1) := by decide +kernel
theorem dX8_append_41 : decode cX8_append 41 = .ok (.getfield 13, 3) := by decide +kernel
theorem dX8_append_44 : decode cX8_append 44 = .ok (.iconst 1, 1) := by decide +kernel
theorem dX8_append_45 : decode cX8_append 45 = .ok (.iadd, 1) := by decide +kernel
theorem dX8_append_46 : decode cX8_append 46 = .ok (.putfield 13, 3) := by decide +kernel
theorem dX8_append_49 : decode cX8_append 49 = .ok (.iinc 2 (-8), 3) := by decide +kernel
theorem dX8_append_52 : decode cX8_append 52 = .ok (.goto (-49), 3) := by decide +kernel
theorem dX8_append_55 : decode cX8_append 55 = .ok (.return_, 1) := by decide +kernel
theorem dX8_bytesOf_0 : decode cX8_bytesOf 0 = .ok (.iconst 0, 1) := by decide +kernel
theorem dX8_bytesOf_1 : decode cX8_bytesOf 1 = .ok (.istore_n 1, 1) := by decide +kernel
theorem dX8_bytesOf_2 : decode cX8_bytesOf 2 = .ok (.bipush 24, 2) := by decide +kernel
theorem dX8_bytesOf_4 : decode cX8_bytesOf 4 = .ok (.istore_n 2, 1) := by decide +kernel
theorem dX8_bytesOf_5 : decode cX8_bytesOf 5 = .ok (.iload_n 2, 1) := by decide +kernel
theorem dX8_bytesOf_6 : decode cX8_bytesOf 6 = .ok (.ifCond .lt 27, 3) := by decide +kernel
theorem dX8_bytesOf_9 : decode cX8_bytesOf 9 = .ok (.iload_n 1, 1) := by decide +kernel
theorem dX8_bytesOf_10 : decode cX8_bytesOf 10 = .ok (.iload_n 0, 1) := by decide +kernel
theorem dX8_bytesOf_11 : decode cX8_bytesOf 11 = .ok (.iload_n 2, 1) := by decide +kernel
theorem dX8_bytesOf_12 : decode cX8_bytesOf 12 = .ok (.iushr, 1) := by decide +kernel
theorem dX8_bytesOf_13 : decode cX8_bytesOf 13 = .ok (.sipush 255, 3) := by decide +kernel
theorem dX8_bytesOf_16 : decode cX8_bytesOf 16 = .ok (.iand, 1) := by decide +kernel
theorem dX8_bytesOf_17 : decode cX8_bytesOf 17 = .ok (.ifCond .eq 7, 3) := by decide +kernel
theorem dX8_bytesOf_20 : decode cX8_bytesOf 20 = .ok (.iconst 1, 1) := by decide +kernel
theorem dX8_bytesOf_21 : decode cX8_bytesOf 21 = .ok (.goto 4, 3) := by decide +kernel
theorem dX8_bytesOf_24 : decode cX8_bytesOf 24 = .ok (.iconst 0, 1) := by decide +kernel
theorem dX8_bytesOf_25 : decode cX8_bytesOf 25 = .ok (.iadd, 1) := by decide +kernel
theorem dX8_bytesOf_26 : decode cX8_bytesOf 26 = .ok (.istore_n 1, 1) := by decide +kernel
theorem dX8_bytesOf_27 : decode cX8_bytesOf 27 = .ok (.iinc 2 (-8), 3) := by decide +kernel
theorem dX8_bytesOf_30 : decode cX8_bytesOf 30 = .ok (.goto (-25), 3) := by decide +kernel
theorem dX8_bytesOf_33 : decode cX8_bytesOf 33 = .ok (.iload_n 1, 1) := by decide +kernel
theorem dX8_bytesOf_34 : decode cX8_bytesOf 34 = .ok (.ireturn, 1) := by decide +kernel
def w_X8_bytesOf : List Cond := .code yX8_bytesOf cX8_bytesOf 3 (some .int) :: ([] ++ ([]))
set_option maxHeartbeats 4000000 in
set_option maxRecDepth 100000 in
theorem c_X8_bytesOf (l : Launch) (E : py_E) (L : List Nat) (f : py_F) (sz : Nat) (wd : Int32) : Met l yX8_bytesOf w_X8_bytesOf ({ frames := 0, cells := 0, slots := 0, locals := 0 }) (py_Pc E [.int wd] L f sz) (py_Qi E L f sz (fun r L1 f1 => r = nI (fd_n wd) ∧ L = L1 ∧ f = f1)) 0 0 (va_A (va_pl L f) sz) := by
  refine Met.ofW (cc := cX8_bytesOf) (maxL := 3) (ret := (some .int)) (by decide) rfl ?_
  intro p e s m args below meth c s₁ B hml hv
  obtain ⟨rfl, rfl, hw⟩ := py_start hv
  have G : CallFix p m c cX8_bytesOf 3 s _ w_X8_bytesOf RX8 := ⟨B.exec, B.bytes, hml, findClass_of_methodNamed B.named, atoms_spec (ws := w_X8_bytesOf) B.pre⟩
  have hr := B.returns
  have hlk := B.notSynchronized
  have hl := lv_entry ([.int wd]) (n := 3) (Nat.le_of_ble_eq_true rfl)
  rw [lg_entry_eq]
  generalize (lg_sl ([.int wd]) ++ List.replicate (3 - (lg_sl ([.int wd])).length) Slot.unset).toArray = ls at hl ⊢
  have hl : lv_has ls 3 [(0, .int wd)] := hl
  refine lv_iconst (v := 0) G.1 G.2.1 dX8_bytesOf_0 (by decide) ?_
  refine lv_istore_n (lv' := [(1, .int 0), (0, .int wd)]) G.1 G.2.1 dX8_bytesOf_1 rfl hl (by decide) rfl (fun ls hl => ?_)
  refine lv_bipush (v := 24) G.1 G.2.1 dX8_bytesOf_2 (by decide) ?_
  refine lv_istore_n (lv' := [(2, .int 24), (1, .int 0), (0, .int wd)]) G.1 G.2.1 dX8_bytesOf_4 rfl hl (by decide) rfl (fun ls hl => ?_)
  refine lv_iload_n G.1 G.2.1 dX8_bytesOf_5 rfl (lv_at hl 0 rfl) ?_
  refine lv_if_lt (tgt := 33) G.1 G.2.1 dX8_bytesOf_6 (by decide) (fun c_1 => ?_) (fun c_1 => ?_)
  · skip
    exact absurd c_1 (by decide)
  · skip
    refine lv_iload_n G.1 G.2.1 dX8_bytesOf_9 rfl (lv_at hl 1 rfl) ?_
    refine lv_iload_n G.1 G.2.1 dX8_bytesOf_10 rfl (lv_at hl 2 rfl) ?_
    refine lv_iload_n G.1 G.2.1 dX8_bytesOf_11 rfl (lv_at hl 0 rfl) ?_
    refine lv_iushr G.1 G.2.1 dX8_bytesOf_12 rfl ?_
    refine lv_topi (fun x_2 ex_2 => ?_)
    refine lv_sipush (v := 255) G.1 G.2.1 dX8_bytesOf_13 (by decide) ?_
    refine lv_iand G.1 G.2.1 dX8_bytesOf_16 ?_
    refine lv_topi (fun x_3 ex_3 => ?_)
    have eb_24 : x_3 = fd_b wd 24 := by rw [ex_3, ex_2]; rfl
    refine lv_if_eq (tgt := 24) G.1 G.2.1 dX8_bytesOf_17 (by decide) (fun c_4 => ?_) (fun c_4 => ?_)
    · skip
      refine lv_iconst (v := 0) G.1 G.2.1 dX8_bytesOf_24 (by decide) ?_
      refine lv_iadd G.1 G.2.1 dX8_bytesOf_25 ?_
      rw [show 0 + 0 = (0 : Int32) by decide]
      refine lv_istore_n (lv' := [(1, .int 0), (2, .int 24), (0, .int wd)]) G.1 G.2.1 dX8_bytesOf_26 rfl hl (by decide) rfl (fun ls hl => ?_)
      refine lv_iinc (v := 16) (lv' := [(2, .int 16), (1, .int 0), (0, .int wd)]) G.1 G.2.1 dX8_bytesOf_27 hl (k := 1) rfl (by decide) (by decide) rfl (fun ls hl => ?_)
      refine lv_goto (tgt := 5) G.1 G.2.1 dX8_bytesOf_30 (by decide) ?_
      refine lv_iload_n G.1 G.2.1 dX8_bytesOf_5 rfl (lv_at hl 0 rfl) ?_
      refine lv_if_lt (tgt := 33) G.1 G.2.1 dX8_bytesOf_6 (by decide) (fun c_5 => ?_) (fun c_5 => ?_)
      · skip
        exact absurd c_5 (by decide)
      · skip
        refine lv_iload_n G.1 G.2.1 dX8_bytesOf_9 rfl (lv_at hl 1 rfl) ?_
        refine lv_iload_n G.1 G.2.1 dX8_bytesOf_10 rfl (lv_at hl 2 rfl) ?_
        refine lv_iload_n G.1 G.2.1 dX8_bytesOf_11 rfl (lv_at hl 0 rfl) ?_
        refine lv_iushr G.1 G.2.1 dX8_bytesOf_12 rfl ?_
        refine lv_topi (fun x_6 ex_6 => ?_)
        refine lv_sipush (v := 255) G.1 G.2.1 dX8_bytesOf_13 (by decide) ?_
        refine lv_iand G.1 G.2.1 dX8_bytesOf_16 ?_
        refine lv_topi (fun x_7 ex_7 => ?_)
        have eb_16 : x_7 = fd_b wd 16 := by rw [ex_7, ex_6]; rfl
        refine lv_if_eq (tgt := 24) G.1 G.2.1 dX8_bytesOf_17 (by decide) (fun c_8 => ?_) (fun c_8 => ?_)
        · skip
          refine lv_iconst (v := 0) G.1 G.2.1 dX8_bytesOf_24 (by decide) ?_
          refine lv_iadd G.1 G.2.1 dX8_bytesOf_25 ?_
          rw [show 0 + 0 = (0 : Int32) by decide]
          refine lv_istore_n (lv' := [(1, .int 0), (2, .int 16), (0, .int wd)]) G.1 G.2.1 dX8_bytesOf_26 rfl hl (by decide) rfl (fun ls hl => ?_)
          refine lv_iinc (v := 8) (lv' := [(2, .int 8), (1, .int 0), (0, .int wd)]) G.1 G.2.1 dX8_bytesOf_27 hl (k := 1) rfl (by decide) (by decide) rfl (fun ls hl => ?_)
          refine lv_goto (tgt := 5) G.1 G.2.1 dX8_bytesOf_30 (by decide) ?_
          refine lv_iload_n G.1 G.2.1 dX8_bytesOf_5 rfl (lv_at hl 0 rfl) ?_
          refine lv_if_lt (tgt := 33) G.1 G.2.1 dX8_bytesOf_6 (by decide) (fun c_9 => ?_) (fun c_9 => ?_)
          · skip
            exact absurd c_9 (by decide)
          · skip
            refine lv_iload_n G.1 G.2.1 dX8_bytesOf_9 rfl (lv_at hl 1 rfl) ?_
            refine lv_iload_n G.1 G.2.1 dX8_bytesOf_10 rfl (lv_at hl 2 rfl) ?_
            refine lv_iload_n G.1 G.2.1 dX8_bytesOf_11 rfl (lv_at hl 0 rfl) ?_
            refine lv_iushr G.1 G.2.1 dX8_bytesOf_12 rfl ?_
            refine lv_topi (fun x_10 ex_10 => ?_)
            refine lv_sipush (v := 255) G.1 G.2.1 dX8_bytesOf_13 (by decide) ?_
            refine lv_iand G.1 G.2.1 dX8_bytesOf_16 ?_
            refine lv_topi (fun x_11 ex_11 => ?_)
            have eb_8 : x_11 = fd_b wd 8 := by rw [ex_11, ex_10]; rfl
            refine lv_if_eq (tgt := 24) G.1 G.2.1 dX8_bytesOf_17 (by decide) (fun c_12 => ?_) (fun c_12 => ?_)
            · skip
              refine lv_iconst (v := 0) G.1 G.2.1 dX8_bytesOf_24 (by decide) ?_
              refine lv_iadd G.1 G.2.1 dX8_bytesOf_25 ?_
              rw [show 0 + 0 = (0 : Int32) by decide]
              refine lv_istore_n (lv' := [(1, .int 0), (2, .int 8), (0, .int wd)]) G.1 G.2.1 dX8_bytesOf_26 rfl hl (by decide) rfl (fun ls hl => ?_)
              refine lv_iinc (v := 0) (lv' := [(2, .int 0), (1, .int 0), (0, .int wd)]) G.1 G.2.1 dX8_bytesOf_27 hl (k := 1) rfl (by decide) (by decide) rfl (fun ls hl => ?_)
              refine lv_goto (tgt := 5) G.1 G.2.1 dX8_bytesOf_30 (by decide) ?_
              refine lv_iload_n G.1 G.2.1 dX8_bytesOf_5 rfl (lv_at hl 0 rfl) ?_
              refine lv_if_lt (tgt := 33) G.1 G.2.1 dX8_bytesOf_6 (by decide) (fun c_13 => ?_) (fun c_13 => ?_)
              · skip
                exact absurd c_13 (by decide)
              · skip
                refine lv_iload_n G.1 G.2.1 dX8_bytesOf_9 rfl (lv_at hl 1 rfl) ?_
                refine lv_iload_n G.1 G.2.1 dX8_bytesOf_10 rfl (lv_at hl 2 rfl) ?_
                refine lv_iload_n G.1 G.2.1 dX8_bytesOf_11 rfl (lv_at hl 0 rfl) ?_
                refine lv_iushr G.1 G.2.1 dX8_bytesOf_12 rfl ?_
                refine lv_topi (fun x_14 ex_14 => ?_)
                refine lv_sipush (v := 255) G.1 G.2.1 dX8_bytesOf_13 (by decide) ?_
                refine lv_iand G.1 G.2.1 dX8_bytesOf_16 ?_
                refine lv_topi (fun x_15 ex_15 => ?_)
                have eb_0 : x_15 = fd_b wd 0 := by rw [ex_15, ex_14]; rfl
                refine lv_if_eq (tgt := 24) G.1 G.2.1 dX8_bytesOf_17 (by decide) (fun c_16 => ?_) (fun c_16 => ?_)
                · skip
                  refine lv_iconst (v := 0) G.1 G.2.1 dX8_bytesOf_24 (by decide) ?_
                  refine lv_iadd G.1 G.2.1 dX8_bytesOf_25 ?_
                  rw [show 0 + 0 = (0 : Int32) by decide]
                  refine lv_istore_n (lv' := [(1, .int 0), (2, .int 0), (0, .int wd)]) G.1 G.2.1 dX8_bytesOf_26 rfl hl (by decide) rfl (fun ls hl => ?_)
                  refine lv_iinc (v := (-8)) (lv' := [(2, .int (-8)), (1, .int 0), (0, .int wd)]) G.1 G.2.1 dX8_bytesOf_27 hl (k := 1) rfl (by decide) (by decide) rfl (fun ls hl => ?_)
                  refine lv_goto (tgt := 5) G.1 G.2.1 dX8_bytesOf_30 (by decide) ?_
                  refine lv_iload_n G.1 G.2.1 dX8_bytesOf_5 rfl (lv_at hl 0 rfl) ?_
                  refine lv_if_lt (tgt := 33) G.1 G.2.1 dX8_bytesOf_6 (by decide) (fun c_17 => ?_) (fun c_17 => ?_)
                  · skip
                    refine lv_iload_n G.1 G.2.1 dX8_bytesOf_33 rfl (lv_at hl 1 rfl) ?_
                    have ec_24 : fd_c (fd_b wd 24) = 0 := by rw [← eb_24]; exact fd_c0 c_4
                    have ec_16 : fd_c (fd_b wd 16) = 0 := by rw [← eb_16]; exact fd_c0 c_8
                    have ec_8 : fd_c (fd_b wd 8) = 0 := by rw [← eb_8]; exact fd_c0 c_12
                    have ec_0 : fd_c (fd_b wd 0) = 0 := by rw [← eb_0]; exact fd_c0 c_16
                    exact py_iret G hr rfl hlk hw ⟨by rw [fd_n, ec_24, ec_16, ec_8, ec_0]; rfl, rfl, rfl⟩ dX8_bytesOf_34
                  · skip
                    exact absurd c_17 (by decide)
                · skip
                  refine lv_iconst (v := 1) G.1 G.2.1 dX8_bytesOf_20 (by decide) ?_
                  refine lv_goto (tgt := 25) G.1 G.2.1 dX8_bytesOf_21 (by decide) ?_
                  refine lv_iadd G.1 G.2.1 dX8_bytesOf_25 ?_
                  rw [show 0 + 1 = (1 : Int32) by decide]
                  refine lv_istore_n (lv' := [(1, .int 1), (2, .int 0), (0, .int wd)]) G.1 G.2.1 dX8_bytesOf_26 rfl hl (by decide) rfl (fun ls hl => ?_)
                  refine lv_iinc (v := (-8)) (lv' := [(2, .int (-8)), (1, .int 1), (0, .int wd)]) G.1 G.2.1 dX8_bytesOf_27 hl (k := 1) rfl (by decide) (by decide) rfl (fun ls hl => ?_)
                  refine lv_goto (tgt := 5) G.1 G.2.1 dX8_bytesOf_30 (by decide) ?_
                  refine lv_iload_n G.1 G.2.1 dX8_bytesOf_5 rfl (lv_at hl 0 rfl) ?_
                  refine lv_if_lt (tgt := 33) G.1 G.2.1 dX8_bytesOf_6 (by decide) (fun c_18 => ?_) (fun c_18 => ?_)
                  · skip
                    refine lv_iload_n G.1 G.2.1 dX8_bytesOf_33 rfl (lv_at hl 1 rfl) ?_
                    have ec_24 : fd_c (fd_b wd 24) = 0 := by rw [← eb_24]; exact fd_c0 c_4
                    have ec_16 : fd_c (fd_b wd 16) = 0 := by rw [← eb_16]; exact fd_c0 c_8
                    have ec_8 : fd_c (fd_b wd 8) = 0 := by rw [← eb_8]; exact fd_c0 c_12
                    have ec_0 : fd_c (fd_b wd 0) = 1 := by rw [← eb_0]; exact fd_c1 c_16
                    exact py_iret G hr rfl hlk hw ⟨by rw [fd_n, ec_24, ec_16, ec_8, ec_0]; rfl, rfl, rfl⟩ dX8_bytesOf_34
                  · skip
                    exact absurd c_18 (by decide)
            · skip
              refine lv_iconst (v := 1) G.1 G.2.1 dX8_bytesOf_20 (by decide) ?_
              refine lv_goto (tgt := 25) G.1 G.2.1 dX8_bytesOf_21 (by decide) ?_
              refine lv_iadd G.1 G.2.1 dX8_bytesOf_25 ?_
              rw [show 0 + 1 = (1 : Int32) by decide]
              refine lv_istore_n (lv' := [(1, .int 1), (2, .int 8), (0, .int wd)]) G.1 G.2.1 dX8_bytesOf_26 rfl hl (by decide) rfl (fun ls hl => ?_)
              refine lv_iinc (v := 0) (lv' := [(2, .int 0), (1, .int 1), (0, .int wd)]) G.1 G.2.1 dX8_bytesOf_27 hl (k := 1) rfl (by decide) (by decide) rfl (fun ls hl => ?_)
              refine lv_goto (tgt := 5) G.1 G.2.1 dX8_bytesOf_30 (by decide) ?_
              refine lv_iload_n G.1 G.2.1 dX8_bytesOf_5 rfl (lv_at hl 0 rfl) ?_
              refine lv_if_lt (tgt := 33) G.1 G.2.1 dX8_bytesOf_6 (by decide) (fun c_19 => ?_) (fun c_19 => ?_)
              · skip
                exact absurd c_19 (by decide)
              · skip
                refine lv_iload_n G.1 G.2.1 dX8_bytesOf_9 rfl (lv_at hl 1 rfl) ?_
                refine lv_iload_n G.1 G.2.1 dX8_bytesOf_10 rfl (lv_at hl 2 rfl) ?_
                refine lv_iload_n G.1 G.2.1 dX8_bytesOf_11 rfl (lv_at hl 0 rfl) ?_
                refine lv_iushr G.1 G.2.1 dX8_bytesOf_12 rfl ?_
                refine lv_topi (fun x_20 ex_20 => ?_)
                refine lv_sipush (v := 255) G.1 G.2.1 dX8_bytesOf_13 (by decide) ?_
                refine lv_iand G.1 G.2.1 dX8_bytesOf_16 ?_
                refine lv_topi (fun x_21 ex_21 => ?_)
                have eb_0 : x_21 = fd_b wd 0 := by rw [ex_21, ex_20]; rfl
                refine lv_if_eq (tgt := 24) G.1 G.2.1 dX8_bytesOf_17 (by decide) (fun c_22 => ?_) (fun c_22 => ?_)
                · skip
                  refine lv_iconst (v := 0) G.1 G.2.1 dX8_bytesOf_24 (by decide) ?_
                  refine lv_iadd G.1 G.2.1 dX8_bytesOf_25 ?_
                  rw [show 1 + 0 = (1 : Int32) by decide]
                  refine lv_istore_n (lv' := [(1, .int 1), (2, .int 0), (0, .int wd)]) G.1 G.2.1 dX8_bytesOf_26 rfl hl (by decide) rfl (fun ls hl => ?_)
                  refine lv_iinc (v := (-8)) (lv' := [(2, .int (-8)), (1, .int 1), (0, .int wd)]) G.1 G.2.1 dX8_bytesOf_27 hl (k := 1) rfl (by decide) (by decide) rfl (fun ls hl => ?_)
                  refine lv_goto (tgt := 5) G.1 G.2.1 dX8_bytesOf_30 (by decide) ?_
                  refine lv_iload_n G.1 G.2.1 dX8_bytesOf_5 rfl (lv_at hl 0 rfl) ?_
                  refine lv_if_lt (tgt := 33) G.1 G.2.1 dX8_bytesOf_6 (by decide) (fun c_23 => ?_) (fun c_23 => ?_)
                  · skip
                    refine lv_iload_n G.1 G.2.1 dX8_bytesOf_33 rfl (lv_at hl 1 rfl) ?_
                    have ec_24 : fd_c (fd_b wd 24) = 0 := by rw [← eb_24]; exact fd_c0 c_4
                    have ec_16 : fd_c (fd_b wd 16) = 0 := by rw [← eb_16]; exact fd_c0 c_8
                    have ec_8 : fd_c (fd_b wd 8) = 1 := by rw [← eb_8]; exact fd_c1 c_12
                    have ec_0 : fd_c (fd_b wd 0) = 0 := by rw [← eb_0]; exact fd_c0 c_22
                    exact py_iret G hr rfl hlk hw ⟨by rw [fd_n, ec_24, ec_16, ec_8, ec_0]; rfl, rfl, rfl⟩ dX8_bytesOf_34
                  · skip
                    exact absurd c_23 (by decide)
                · skip
                  refine lv_iconst (v := 1) G.1 G.2.1 dX8_bytesOf_20 (by decide) ?_
                  refine lv_goto (tgt := 25) G.1 G.2.1 dX8_bytesOf_21 (by decide) ?_
                  refine lv_iadd G.1 G.2.1 dX8_bytesOf_25 ?_
                  rw [show 1 + 1 = (2 : Int32) by decide]
                  refine lv_istore_n (lv' := [(1, .int 2), (2, .int 0), (0, .int wd)]) G.1 G.2.1 dX8_bytesOf_26 rfl hl (by decide) rfl (fun ls hl => ?_)
                  refine lv_iinc (v := (-8)) (lv' := [(2, .int (-8)), (1, .int 2), (0, .int wd)]) G.1 G.2.1 dX8_bytesOf_27 hl (k := 1) rfl (by decide) (by decide) rfl (fun ls hl => ?_)
                  refine lv_goto (tgt := 5) G.1 G.2.1 dX8_bytesOf_30 (by decide) ?_
                  refine lv_iload_n G.1 G.2.1 dX8_bytesOf_5 rfl (lv_at hl 0 rfl) ?_
                  refine lv_if_lt (tgt := 33) G.1 G.2.1 dX8_bytesOf_6 (by decide) (fun c_24 => ?_) (fun c_24 => ?_)
                  · skip
                    refine lv_iload_n G.1 G.2.1 dX8_bytesOf_33 rfl (lv_at hl 1 rfl) ?_
                    have ec_24 : fd_c (fd_b wd 24) = 0 := by rw [← eb_24]; exact fd_c0 c_4
                    have ec_16 : fd_c (fd_b wd 16) = 0 := by rw [← eb_16]; exact fd_c0 c_8
                    have ec_8 : fd_c (fd_b wd 8) = 1 := by rw [← eb_8]; exact fd_c1 c_12
                    have ec_0 : fd_c (fd_b wd 0) = 1 := by rw [← eb_0]; exact fd_c1 c_22
                    exact py_iret G hr rfl hlk hw ⟨by rw [fd_n, ec_24, ec_16, ec_8, ec_0]; rfl, rfl, rfl⟩ dX8_bytesOf_34
                  · skip
                    exact absurd c_24 (by decide)
        · skip
          refine lv_iconst (v := 1) G.1 G.2.1 dX8_bytesOf_20 (by decide) ?_
          refine lv_goto (tgt := 25) G.1 G.2.1 dX8_bytesOf_21 (by decide) ?_
          refine lv_iadd G.1 G.2.1 dX8_bytesOf_25 ?_
          rw [show 0 + 1 = (1 : Int32) by decide]
          refine lv_istore_n (lv' := [(1, .int 1), (2, .int 16), (0, .int wd)]) G.1 G.2.1 dX8_bytesOf_26 rfl hl (by decide) rfl (fun ls hl => ?_)
          refine lv_iinc (v := 8) (lv' := [(2, .int 8), (1, .int 1), (0, .int wd)]) G.1 G.2.1 dX8_bytesOf_27 hl (k := 1) rfl (by decide) (by decide) rfl (fun ls hl => ?_)
          refine lv_goto (tgt := 5) G.1 G.2.1 dX8_bytesOf_30 (by decide) ?_
          refine lv_iload_n G.1 G.2.1 dX8_bytesOf_5 rfl (lv_at hl 0 rfl) ?_
          refine lv_if_lt (tgt := 33) G.1 G.2.1 dX8_bytesOf_6 (by decide) (fun c_25 => ?_) (fun c_25 => ?_)
          · skip
            exact absurd c_25 (by decide)
          · skip
            refine lv_iload_n G.1 G.2.1 dX8_bytesOf_9 rfl (lv_at hl 1 rfl) ?_
            refine lv_iload_n G.1 G.2.1 dX8_bytesOf_10 rfl (lv_at hl 2 rfl) ?_
            refine lv_iload_n G.1 G.2.1 dX8_bytesOf_11 rfl (lv_at hl 0 rfl) ?_
            refine lv_iushr G.1 G.2.1 dX8_bytesOf_12 rfl ?_
            refine lv_topi (fun x_26 ex_26 => ?_)
            refine lv_sipush (v := 255) G.1 G.2.1 dX8_bytesOf_13 (by decide) ?_
            refine lv_iand G.1 G.2.1 dX8_bytesOf_16 ?_
            refine lv_topi (fun x_27 ex_27 => ?_)
            have eb_8 : x_27 = fd_b wd 8 := by rw [ex_27, ex_26]; rfl
            refine lv_if_eq (tgt := 24) G.1 G.2.1 dX8_bytesOf_17 (by decide) (fun c_28 => ?_) (fun c_28 => ?_)
            · skip
              refine lv_iconst (v := 0) G.1 G.2.1 dX8_bytesOf_24 (by decide) ?_
              refine lv_iadd G.1 G.2.1 dX8_bytesOf_25 ?_
              rw [show 1 + 0 = (1 : Int32) by decide]
              refine lv_istore_n (lv' := [(1, .int 1), (2, .int 8), (0, .int wd)]) G.1 G.2.1 dX8_bytesOf_26 rfl hl (by decide) rfl (fun ls hl => ?_)
              refine lv_iinc (v := 0) (lv' := [(2, .int 0), (1, .int 1), (0, .int wd)]) G.1 G.2.1 dX8_bytesOf_27 hl (k := 1) rfl (by decide) (by decide) rfl (fun ls hl => ?_)
              refine lv_goto (tgt := 5) G.1 G.2.1 dX8_bytesOf_30 (by decide) ?_
              refine lv_iload_n G.1 G.2.1 dX8_bytesOf_5 rfl (lv_at hl 0 rfl) ?_
              refine lv_if_lt (tgt := 33) G.1 G.2.1 dX8_bytesOf_6 (by decide) (fun c_29 => ?_) (fun c_29 => ?_)
              · skip
                exact absurd c_29 (by decide)
              · skip
                refine lv_iload_n G.1 G.2.1 dX8_bytesOf_9 rfl (lv_at hl 1 rfl) ?_
                refine lv_iload_n G.1 G.2.1 dX8_bytesOf_10 rfl (lv_at hl 2 rfl) ?_
                refine lv_iload_n G.1 G.2.1 dX8_bytesOf_11 rfl (lv_at hl 0 rfl) ?_
                refine lv_iushr G.1 G.2.1 dX8_bytesOf_12 rfl ?_
                refine lv_topi (fun x_30 ex_30 => ?_)
                refine lv_sipush (v := 255) G.1 G.2.1 dX8_bytesOf_13 (by decide) ?_
                refine lv_iand G.1 G.2.1 dX8_bytesOf_16 ?_
                refine lv_topi (fun x_31 ex_31 => ?_)
                have eb_0 : x_31 = fd_b wd 0 := by rw [ex_31, ex_30]; rfl
                refine lv_if_eq (tgt := 24) G.1 G.2.1 dX8_bytesOf_17 (by decide) (fun c_32 => ?_) (fun c_32 => ?_)
                · skip
                  refine lv_iconst (v := 0) G.1 G.2.1 dX8_bytesOf_24 (by decide) ?_
                  refine lv_iadd G.1 G.2.1 dX8_bytesOf_25 ?_
                  rw [show 1 + 0 = (1 : Int32) by decide]
                  refine lv_istore_n (lv' := [(1, .int 1), (2, .int 0), (0, .int wd)]) G.1 G.2.1 dX8_bytesOf_26 rfl hl (by decide) rfl (fun ls hl => ?_)
                  refine lv_iinc (v := (-8)) (lv' := [(2, .int (-8)), (1, .int 1), (0, .int wd)]) G.1 G.2.1 dX8_bytesOf_27 hl (k := 1) rfl (by decide) (by decide) rfl (fun ls hl => ?_)
                  refine lv_goto (tgt := 5) G.1 G.2.1 dX8_bytesOf_30 (by decide) ?_
                  refine lv_iload_n G.1 G.2.1 dX8_bytesOf_5 rfl (lv_at hl 0 rfl) ?_
                  refine lv_if_lt (tgt := 33) G.1 G.2.1 dX8_bytesOf_6 (by decide) (fun c_33 => ?_) (fun c_33 => ?_)
                  · skip
                    refine lv_iload_n G.1 G.2.1 dX8_bytesOf_33 rfl (lv_at hl 1 rfl) ?_
                    have ec_24 : fd_c (fd_b wd 24) = 0 := by rw [← eb_24]; exact fd_c0 c_4
                    have ec_16 : fd_c (fd_b wd 16) = 1 := by rw [← eb_16]; exact fd_c1 c_8
                    have ec_8 : fd_c (fd_b wd 8) = 0 := by rw [← eb_8]; exact fd_c0 c_28
                    have ec_0 : fd_c (fd_b wd 0) = 0 := by rw [← eb_0]; exact fd_c0 c_32
                    exact py_iret G hr rfl hlk hw ⟨by rw [fd_n, ec_24, ec_16, ec_8, ec_0]; rfl, rfl, rfl⟩ dX8_bytesOf_34
                  · skip
                    exact absurd c_33 (by decide)
                · skip
                  refine lv_iconst (v := 1) G.1 G.2.1 dX8_bytesOf_20 (by decide) ?_
                  refine lv_goto (tgt := 25) G.1 G.2.1 dX8_bytesOf_21 (by decide) ?_
                  refine lv_iadd G.1 G.2.1 dX8_bytesOf_25 ?_
                  rw [show 1 + 1 = (2 : Int32) by decide]
                  refine lv_istore_n (lv' := [(1, .int 2), (2, .int 0), (0, .int wd)]) G.1 G.2.1 dX8_bytesOf_26 rfl hl (by decide) rfl (fun ls hl => ?_)
                  refine lv_iinc (v := (-8)) (lv' := [(2, .int (-8)), (1, .int 2), (0, .int wd)]) G.1 G.2.1 dX8_bytesOf_27 hl (k := 1) rfl (by decide) (by decide) rfl (fun ls hl => ?_)
                  refine lv_goto (tgt := 5) G.1 G.2.1 dX8_bytesOf_30 (by decide) ?_
                  refine lv_iload_n G.1 G.2.1 dX8_bytesOf_5 rfl (lv_at hl 0 rfl) ?_
                  refine lv_if_lt (tgt := 33) G.1 G.2.1 dX8_bytesOf_6 (by decide) (fun c_34 => ?_) (fun c_34 => ?_)
                  · skip
                    refine lv_iload_n G.1 G.2.1 dX8_bytesOf_33 rfl (lv_at hl 1 rfl) ?_
                    have ec_24 : fd_c (fd_b wd 24) = 0 := by rw [← eb_24]; exact fd_c0 c_4
                    have ec_16 : fd_c (fd_b wd 16) = 1 := by rw [← eb_16]; exact fd_c1 c_8
                    have ec_8 : fd_c (fd_b wd 8) = 0 := by rw [← eb_8]; exact fd_c0 c_28
                    have ec_0 : fd_c (fd_b wd 0) = 1 := by rw [← eb_0]; exact fd_c1 c_32
                    exact py_iret G hr rfl hlk hw ⟨by rw [fd_n, ec_24, ec_16, ec_8, ec_0]; rfl, rfl, rfl⟩ dX8_bytesOf_34
                  · skip
                    exact absurd c_34 (by decide)
            · skip
              refine lv_iconst (v := 1) G.1 G.2.1 dX8_bytesOf_20 (by decide) ?_
              refine lv_goto (tgt := 25) G.1 G.2.1 dX8_bytesOf_21 (by decide) ?_
              refine lv_iadd G.1 G.2.1 dX8_bytesOf_25 ?_
              rw [show 1 + 1 = (2 : Int32) by decide]
              refine lv_istore_n (lv' := [(1, .int 2), (2, .int 8), (0, .int wd)]) G.1 G.2.1 dX8_bytesOf_26 rfl hl (by decide) rfl (fun ls hl => ?_)
              refine lv_iinc (v := 0) (lv' := [(2, .int 0), (1, .int 2), (0, .int wd)]) G.1 G.2.1 dX8_bytesOf_27 hl (k := 1) rfl (by decide) (by decide) rfl (fun ls hl => ?_)
              refine lv_goto (tgt := 5) G.1 G.2.1 dX8_bytesOf_30 (by decide) ?_
              refine lv_iload_n G.1 G.2.1 dX8_bytesOf_5 rfl (lv_at hl 0 rfl) ?_
              refine lv_if_lt (tgt := 33) G.1 G.2.1 dX8_bytesOf_6 (by decide) (fun c_35 => ?_) (fun c_35 => ?_)
              · skip
                exact absurd c_35 (by decide)
              · skip
                refine lv_iload_n G.1 G.2.1 dX8_bytesOf_9 rfl (lv_at hl 1 rfl) ?_
                refine lv_iload_n G.1 G.2.1 dX8_bytesOf_10 rfl (lv_at hl 2 rfl) ?_
                refine lv_iload_n G.1 G.2.1 dX8_bytesOf_11 rfl (lv_at hl 0 rfl) ?_
                refine lv_iushr G.1 G.2.1 dX8_bytesOf_12 rfl ?_
                refine lv_topi (fun x_36 ex_36 => ?_)
                refine lv_sipush (v := 255) G.1 G.2.1 dX8_bytesOf_13 (by decide) ?_
                refine lv_iand G.1 G.2.1 dX8_bytesOf_16 ?_
                refine lv_topi (fun x_37 ex_37 => ?_)
                have eb_0 : x_37 = fd_b wd 0 := by rw [ex_37, ex_36]; rfl
                refine lv_if_eq (tgt := 24) G.1 G.2.1 dX8_bytesOf_17 (by decide) (fun c_38 => ?_) (fun c_38 => ?_)
                · skip
                  refine lv_iconst (v := 0) G.1 G.2.1 dX8_bytesOf_24 (by decide) ?_
                  refine lv_iadd G.1 G.2.1 dX8_bytesOf_25 ?_
                  rw [show 2 + 0 = (2 : Int32) by decide]
                  refine lv_istore_n (lv' := [(1, .int 2), (2, .int 0), (0, .int wd)]) G.1 G.2.1 dX8_bytesOf_26 rfl hl (by decide) rfl (fun ls hl => ?_)
                  refine lv_iinc (v := (-8)) (lv' := [(2, .int (-8)), (1, .int 2), (0, .int wd)]) G.1 G.2.1 dX8_bytesOf_27 hl (k := 1) rfl (by decide) (by decide) rfl (fun ls hl => ?_)
                  refine lv_goto (tgt := 5) G.1 G.2.1 dX8_bytesOf_30 (by decide) ?_
                  refine lv_iload_n G.1 G.2.1 dX8_bytesOf_5 rfl (lv_at hl 0 rfl) ?_
                  refine lv_if_lt (tgt := 33) G.1 G.2.1 dX8_bytesOf_6 (by decide) (fun c_39 => ?_) (fun c_39 => ?_)
                  · skip
                    refine lv_iload_n G.1 G.2.1 dX8_bytesOf_33 rfl (lv_at hl 1 rfl) ?_
                    have ec_24 : fd_c (fd_b wd 24) = 0 := by rw [← eb_24]; exact fd_c0 c_4
                    have ec_16 : fd_c (fd_b wd 16) = 1 := by rw [← eb_16]; exact fd_c1 c_8
                    have ec_8 : fd_c (fd_b wd 8) = 1 := by rw [← eb_8]; exact fd_c1 c_28
                    have ec_0 : fd_c (fd_b wd 0) = 0 := by rw [← eb_0]; exact fd_c0 c_38
                    exact py_iret G hr rfl hlk hw ⟨by rw [fd_n, ec_24, ec_16, ec_8, ec_0]; rfl, rfl, rfl⟩ dX8_bytesOf_34
                  · skip
                    exact absurd c_39 (by decide)
                · skip
                  refine lv_iconst (v := 1) G.1 G.2.1 dX8_bytesOf_20 (by decide) ?_
                  refine lv_goto (tgt := 25) G.1 G.2.1 dX8_bytesOf_21 (by decide) ?_
                  refine lv_iadd G.1 G.2.1 dX8_bytesOf_25 ?_
                  rw [show 2 + 1 = (3 : Int32) by decide]
                  refine lv_istore_n (lv' := [(1, .int 3), (2, .int 0), (0, .int wd)]) G.1 G.2.1 dX8_bytesOf_26 rfl hl (by decide) rfl (fun ls hl => ?_)
                  refine lv_iinc (v := (-8)) (lv' := [(2, .int (-8)), (1, .int 3), (0, .int wd)]) G.1 G.2.1 dX8_bytesOf_27 hl (k := 1) rfl (by decide) (by decide) rfl (fun ls hl => ?_)
                  refine lv_goto (tgt := 5) G.1 G.2.1 dX8_bytesOf_30 (by decide) ?_
                  refine lv_iload_n G.1 G.2.1 dX8_bytesOf_5 rfl (lv_at hl 0 rfl) ?_
                  refine lv_if_lt (tgt := 33) G.1 G.2.1 dX8_bytesOf_6 (by decide) (fun c_40 => ?_) (fun c_40 => ?_)
                  · skip
                    refine lv_iload_n G.1 G.2.1 dX8_bytesOf_33 rfl (lv_at hl 1 rfl) ?_
                    have ec_24 : fd_c (fd_b wd 24) = 0 := by rw [← eb_24]; exact fd_c0 c_4
                    have ec_16 : fd_c (fd_b wd 16) = 1 := by rw [← eb_16]; exact fd_c1 c_8
                    have ec_8 : fd_c (fd_b wd 8) = 1 := by rw [← eb_8]; exact fd_c1 c_28
                    have ec_0 : fd_c (fd_b wd 0) = 1 := by rw [← eb_0]; exact fd_c1 c_38
                    exact py_iret G hr rfl hlk hw ⟨by rw [fd_n, ec_24, ec_16, ec_8, ec_0]; rfl, rfl, rfl⟩ dX8_bytesOf_34
                  · skip
                    exact absurd c_40 (by decide)
    · skip
      refine lv_iconst (v := 1) G.1 G.2.1 dX8_bytesOf_20 (by decide) ?_
      refine lv_goto (tgt := 25) G.1 G.2.1 dX8_bytesOf_21 (by decide) ?_
      refine lv_iadd G.1 G.2.1 dX8_bytesOf_25 ?_
      rw [show 0 + 1 = (1 : Int32) by decide]
      refine lv_istore_n (lv' := [(1, .int 1), (2, .int 24), (0, .int wd)]) G.1 G.2.1 dX8_bytesOf_26 rfl hl (by decide) rfl (fun ls hl => ?_)
      refine lv_iinc (v := 16) (lv' := [(2, .int 16), (1, .int 1), (0, .int wd)]) G.1 G.2.1 dX8_bytesOf_27 hl (k := 1) rfl (by decide) (by decide) rfl (fun ls hl => ?_)
      refine lv_goto (tgt := 5) G.1 G.2.1 dX8_bytesOf_30 (by decide) ?_
      refine lv_iload_n G.1 G.2.1 dX8_bytesOf_5 rfl (lv_at hl 0 rfl) ?_
      refine lv_if_lt (tgt := 33) G.1 G.2.1 dX8_bytesOf_6 (by decide) (fun c_41 => ?_) (fun c_41 => ?_)
      · skip
        exact absurd c_41 (by decide)
      · skip
        refine lv_iload_n G.1 G.2.1 dX8_bytesOf_9 rfl (lv_at hl 1 rfl) ?_
        refine lv_iload_n G.1 G.2.1 dX8_bytesOf_10 rfl (lv_at hl 2 rfl) ?_
        refine lv_iload_n G.1 G.2.1 dX8_bytesOf_11 rfl (lv_at hl 0 rfl) ?_
        refine lv_iushr G.1 G.2.1 dX8_bytesOf_12 rfl ?_
        refine lv_topi (fun x_42 ex_42 => ?_)
        refine lv_sipush (v := 255) G.1 G.2.1 dX8_bytesOf_13 (by decide) ?_
        refine lv_iand G.1 G.2.1 dX8_bytesOf_16 ?_
        refine lv_topi (fun x_43 ex_43 => ?_)
        have eb_16 : x_43 = fd_b wd 16 := by rw [ex_43, ex_42]; rfl
        refine lv_if_eq (tgt := 24) G.1 G.2.1 dX8_bytesOf_17 (by decide) (fun c_44 => ?_) (fun c_44 => ?_)
        · skip
          refine lv_iconst (v := 0) G.1 G.2.1 dX8_bytesOf_24 (by decide) ?_
          refine lv_iadd G.1 G.2.1 dX8_bytesOf_25 ?_
          rw [show 1 + 0 = (1 : Int32) by decide]
          refine lv_istore_n (lv' := [(1, .int 1), (2, .int 16), (0, .int wd)]) G.1 G.2.1 dX8_bytesOf_26 rfl hl (by decide) rfl (fun ls hl => ?_)
          refine lv_iinc (v := 8) (lv' := [(2, .int 8), (1, .int 1), (0, .int wd)]) G.1 G.2.1 dX8_bytesOf_27 hl (k := 1) rfl (by decide) (by decide) rfl (fun ls hl => ?_)
          refine lv_goto (tgt := 5) G.1 G.2.1 dX8_bytesOf_30 (by decide) ?_
          refine lv_iload_n G.1 G.2.1 dX8_bytesOf_5 rfl (lv_at hl 0 rfl) ?_
          refine lv_if_lt (tgt := 33) G.1 G.2.1 dX8_bytesOf_6 (by decide) (fun c_45 => ?_) (fun c_45 => ?_)
          · skip
            exact absurd c_45 (by decide)
          · skip
            refine lv_iload_n G.1 G.2.1 dX8_bytesOf_9 rfl (lv_at hl 1 rfl) ?_
            refine lv_iload_n G.1 G.2.1 dX8_bytesOf_10 rfl (lv_at hl 2 rfl) ?_
            refine lv_iload_n G.1 G.2.1 dX8_bytesOf_11 rfl (lv_at hl 0 rfl) ?_
            refine lv_iushr G.1 G.2.1 dX8_bytesOf_12 rfl ?_
            refine lv_topi (fun x_46 ex_46 => ?_)
            refine lv_sipush (v := 255) G.1 G.2.1 dX8_bytesOf_13 (by decide) ?_
            refine lv_iand G.1 G.2.1 dX8_bytesOf_16 ?_
            refine lv_topi (fun x_47 ex_47 => ?_)
            have eb_8 : x_47 = fd_b wd 8 := by rw [ex_47, ex_46]; rfl
            refine lv_if_eq (tgt := 24) G.1 G.2.1 dX8_bytesOf_17 (by decide) (fun c_48 => ?_) (fun c_48 => ?_)
            · skip
              refine lv_iconst (v := 0) G.1 G.2.1 dX8_bytesOf_24 (by decide) ?_
              refine lv_iadd G.1 G.2.1 dX8_bytesOf_25 ?_
              rw [show 1 + 0 = (1 : Int32) by decide]
              refine lv_istore_n (lv' := [(1, .int 1), (2, .int 8), (0, .int wd)]) G.1 G.2.1 dX8_bytesOf_26 rfl hl (by decide) rfl (fun ls hl => ?_)
              refine lv_iinc (v := 0) (lv' := [(2, .int 0), (1, .int 1), (0, .int wd)]) G.1 G.2.1 dX8_bytesOf_27 hl (k := 1) rfl (by decide) (by decide) rfl (fun ls hl => ?_)
              refine lv_goto (tgt := 5) G.1 G.2.1 dX8_bytesOf_30 (by decide) ?_
              refine lv_iload_n G.1 G.2.1 dX8_bytesOf_5 rfl (lv_at hl 0 rfl) ?_
              refine lv_if_lt (tgt := 33) G.1 G.2.1 dX8_bytesOf_6 (by decide) (fun c_49 => ?_) (fun c_49 => ?_)
              · skip
                exact absurd c_49 (by decide)
              · skip
                refine lv_iload_n G.1 G.2.1 dX8_bytesOf_9 rfl (lv_at hl 1 rfl) ?_
                refine lv_iload_n G.1 G.2.1 dX8_bytesOf_10 rfl (lv_at hl 2 rfl) ?_
                refine lv_iload_n G.1 G.2.1 dX8_bytesOf_11 rfl (lv_at hl 0 rfl) ?_
                refine lv_iushr G.1 G.2.1 dX8_bytesOf_12 rfl ?_
                refine lv_topi (fun x_50 ex_50 => ?_)
                refine lv_sipush (v := 255) G.1 G.2.1 dX8_bytesOf_13 (by decide) ?_
                refine lv_iand G.1 G.2.1 dX8_bytesOf_16 ?_
                refine lv_topi (fun x_51 ex_51 => ?_)
                have eb_0 : x_51 = fd_b wd 0 := by rw [ex_51, ex_50]; rfl
                refine lv_if_eq (tgt := 24) G.1 G.2.1 dX8_bytesOf_17 (by decide) (fun c_52 => ?_) (fun c_52 => ?_)
                · skip
                  refine lv_iconst (v := 0) G.1 G.2.1 dX8_bytesOf_24 (by decide) ?_
                  refine lv_iadd G.1 G.2.1 dX8_bytesOf_25 ?_
                  rw [show 1 + 0 = (1 : Int32) by decide]
                  refine lv_istore_n (lv' := [(1, .int 1), (2, .int 0), (0, .int wd)]) G.1 G.2.1 dX8_bytesOf_26 rfl hl (by decide) rfl (fun ls hl => ?_)
                  refine lv_iinc (v := (-8)) (lv' := [(2, .int (-8)), (1, .int 1), (0, .int wd)]) G.1 G.2.1 dX8_bytesOf_27 hl (k := 1) rfl (by decide) (by decide) rfl (fun ls hl => ?_)
                  refine lv_goto (tgt := 5) G.1 G.2.1 dX8_bytesOf_30 (by decide) ?_
                  refine lv_iload_n G.1 G.2.1 dX8_bytesOf_5 rfl (lv_at hl 0 rfl) ?_
                  refine lv_if_lt (tgt := 33) G.1 G.2.1 dX8_bytesOf_6 (by decide) (fun c_53 => ?_) (fun c_53 => ?_)
                  · skip
                    refine lv_iload_n G.1 G.2.1 dX8_bytesOf_33 rfl (lv_at hl 1 rfl) ?_
                    have ec_24 : fd_c (fd_b wd 24) = 1 := by rw [← eb_24]; exact fd_c1 c_4
                    have ec_16 : fd_c (fd_b wd 16) = 0 := by rw [← eb_16]; exact fd_c0 c_44
                    have ec_8 : fd_c (fd_b wd 8) = 0 := by rw [← eb_8]; exact fd_c0 c_48
                    have ec_0 : fd_c (fd_b wd 0) = 0 := by rw [← eb_0]; exact fd_c0 c_52
                    exact py_iret G hr rfl hlk hw ⟨by rw [fd_n, ec_24, ec_16, ec_8, ec_0]; rfl, rfl, rfl⟩ dX8_bytesOf_34
                  · skip
                    exact absurd c_53 (by decide)
                · skip
                  refine lv_iconst (v := 1) G.1 G.2.1 dX8_bytesOf_20 (by decide) ?_
                  refine lv_goto (tgt := 25) G.1 G.2.1 dX8_bytesOf_21 (by decide) ?_
                  refine lv_iadd G.1 G.2.1 dX8_bytesOf_25 ?_
                  rw [show 1 + 1 = (2 : Int32) by decide]
                  refine lv_istore_n (lv' := [(1, .int 2), (2, .int 0), (0, .int wd)]) G.1 G.2.1 dX8_bytesOf_26 rfl hl (by decide) rfl (fun ls hl => ?_)
                  refine lv_iinc (v := (-8)) (lv' := [(2, .int (-8)), (1, .int 2), (0, .int wd)]) G.1 G.2.1 dX8_bytesOf_27 hl (k := 1) rfl (by decide) (by decide) rfl (fun ls hl => ?_)
                  refine lv_goto (tgt := 5) G.1 G.2.1 dX8_bytesOf_30 (by decide) ?_
                  refine lv_iload_n G.1 G.2.1 dX8_bytesOf_5 rfl (lv_at hl 0 rfl) ?_
                  refine lv_if_lt (tgt := 33) G.1 G.2.1 dX8_bytesOf_6 (by decide) (fun c_54 => ?_) (fun c_54 => ?_)
                  · skip
                    refine lv_iload_n G.1 G.2.1 dX8_bytesOf_33 rfl (lv_at hl 1 rfl) ?_
                    have ec_24 : fd_c (fd_b wd 24) = 1 := by rw [← eb_24]; exact fd_c1 c_4
                    have ec_16 : fd_c (fd_b wd 16) = 0 := by rw [← eb_16]; exact fd_c0 c_44
                    have ec_8 : fd_c (fd_b wd 8) = 0 := by rw [← eb_8]; exact fd_c0 c_48
                    have ec_0 : fd_c (fd_b wd 0) = 1 := by rw [← eb_0]; exact fd_c1 c_52
                    exact py_iret G hr rfl hlk hw ⟨by rw [fd_n, ec_24, ec_16, ec_8, ec_0]; rfl, rfl, rfl⟩ dX8_bytesOf_34
                  · skip
                    exact absurd c_54 (by decide)
            · skip
              refine lv_iconst (v := 1) G.1 G.2.1 dX8_bytesOf_20 (by decide) ?_
              refine lv_goto (tgt := 25) G.1 G.2.1 dX8_bytesOf_21 (by decide) ?_
              refine lv_iadd G.1 G.2.1 dX8_bytesOf_25 ?_
              rw [show 1 + 1 = (2 : Int32) by decide]
              refine lv_istore_n (lv' := [(1, .int 2), (2, .int 8), (0, .int wd)]) G.1 G.2.1 dX8_bytesOf_26 rfl hl (by decide) rfl (fun ls hl => ?_)
              refine lv_iinc (v := 0) (lv' := [(2, .int 0), (1, .int 2), (0, .int wd)]) G.1 G.2.1 dX8_bytesOf_27 hl (k := 1) rfl (by decide) (by decide) rfl (fun ls hl => ?_)
              refine lv_goto (tgt := 5) G.1 G.2.1 dX8_bytesOf_30 (by decide) ?_
              refine lv_iload_n G.1 G.2.1 dX8_bytesOf_5 rfl (lv_at hl 0 rfl) ?_
              refine lv_if_lt (tgt := 33) G.1 G.2.1 dX8_bytesOf_6 (by decide) (fun c_55 => ?_) (fun c_55 => ?_)
              · skip
                exact absurd c_55 (by decide)
              · skip
                refine lv_iload_n G.1 G.2.1 dX8_bytesOf_9 rfl (lv_at hl 1 rfl) ?_
                refine lv_iload_n G.1 G.2.1 dX8_bytesOf_10 rfl (lv_at hl 2 rfl) ?_
                refine lv_iload_n G.1 G.2.1 dX8_bytesOf_11 rfl (lv_at hl 0 rfl) ?_
                refine lv_iushr G.1 G.2.1 dX8_bytesOf_12 rfl ?_
                refine lv_topi (fun x_56 ex_56 => ?_)
                refine lv_sipush (v := 255) G.1 G.2.1 dX8_bytesOf_13 (by decide) ?_
                refine lv_iand G.1 G.2.1 dX8_bytesOf_16 ?_
                refine lv_topi (fun x_57 ex_57 => ?_)
                have eb_0 : x_57 = fd_b wd 0 := by rw [ex_57, ex_56]; rfl
                refine lv_if_eq (tgt := 24) G.1 G.2.1 dX8_bytesOf_17 (by decide) (fun c_58 => ?_) (fun c_58 => ?_)
                · skip
                  refine lv_iconst (v := 0) G.1 G.2.1 dX8_bytesOf_24 (by decide) ?_
                  refine lv_iadd G.1 G.2.1 dX8_bytesOf_25 ?_
                  rw [show 2 + 0 = (2 : Int32) by decide]
                  refine lv_istore_n (lv' := [(1, .int 2), (2, .int 0), (0, .int wd)]) G.1 G.2.1 dX8_bytesOf_26 rfl hl (by decide) rfl (fun ls hl => ?_)
                  refine lv_iinc (v := (-8)) (lv' := [(2, .int (-8)), (1, .int 2), (0, .int wd)]) G.1 G.2.1 dX8_bytesOf_27 hl (k := 1) rfl (by decide) (by decide) rfl (fun ls hl => ?_)
                  refine lv_goto (tgt := 5) G.1 G.2.1 dX8_bytesOf_30 (by decide) ?_
                  refine lv_iload_n G.1 G.2.1 dX8_bytesOf_5 rfl (lv_at hl 0 rfl) ?_
                  refine lv_if_lt (tgt := 33) G.1 G.2.1 dX8_bytesOf_6 (by decide) (fun c_59 => ?_) (fun c_59 => ?_)
                  · skip
                    refine lv_iload_n G.1 G.2.1 dX8_bytesOf_33 rfl (lv_at hl 1 rfl) ?_
                    have ec_24 : fd_c (fd_b wd 24) = 1 := by rw [← eb_24]; exact fd_c1 c_4
                    have ec_16 : fd_c (fd_b wd 16) = 0 := by rw [← eb_16]; exact fd_c0 c_44
                    have ec_8 : fd_c (fd_b wd 8) = 1 := by rw [← eb_8]; exact fd_c1 c_48
                    have ec_0 : fd_c (fd_b wd 0) = 0 := by rw [← eb_0]; exact fd_c0 c_58
                    exact py_iret G hr rfl hlk hw ⟨by rw [fd_n, ec_24, ec_16, ec_8, ec_0]; rfl, rfl, rfl⟩ dX8_bytesOf_34
                  · skip
                    exact absurd c_59 (by decide)
                · skip
                  refine lv_iconst (v := 1) G.1 G.2.1 dX8_bytesOf_20 (by decide) ?_
                  refine lv_goto (tgt := 25) G.1 G.2.1 dX8_bytesOf_21 (by decide) ?_
                  refine lv_iadd G.1 G.2.1 dX8_bytesOf_25 ?_
                  rw [show 2 + 1 = (3 : Int32) by decide]
                  refine lv_istore_n (lv' := [(1, .int 3), (2, .int 0), (0, .int wd)]) G.1 G.2.1 dX8_bytesOf_26 rfl hl (by decide) rfl (fun ls hl => ?_)
                  refine lv_iinc (v := (-8)) (lv' := [(2, .int (-8)), (1, .int 3), (0, .int wd)]) G.1 G.2.1 dX8_bytesOf_27 hl (k := 1) rfl (by decide) (by decide) rfl (fun ls hl => ?_)
                  refine lv_goto (tgt := 5) G.1 G.2.1 dX8_bytesOf_30 (by decide) ?_
                  refine lv_iload_n G.1 G.2.1 dX8_bytesOf_5 rfl (lv_at hl 0 rfl) ?_
                  refine lv_if_lt (tgt := 33) G.1 G.2.1 dX8_bytesOf_6 (by decide) (fun c_60 => ?_) (fun c_60 => ?_)
                  · skip
                    refine lv_iload_n G.1 G.2.1 dX8_bytesOf_33 rfl (lv_at hl 1 rfl) ?_
                    have ec_24 : fd_c (fd_b wd 24) = 1 := by rw [← eb_24]; exact fd_c1 c_4
                    have ec_16 : fd_c (fd_b wd 16) = 0 := by rw [← eb_16]; exact fd_c0 c_44
                    have ec_8 : fd_c (fd_b wd 8) = 1 := by rw [← eb_8]; exact fd_c1 c_48
                    have ec_0 : fd_c (fd_b wd 0) = 1 := by rw [← eb_0]; exact fd_c1 c_58
                    exact py_iret G hr rfl hlk hw ⟨by rw [fd_n, ec_24, ec_16, ec_8, ec_0]; rfl, rfl, rfl⟩ dX8_bytesOf_34
                  · skip
                    exact absurd c_60 (by decide)
        · skip
          refine lv_iconst (v := 1) G.1 G.2.1 dX8_bytesOf_20 (by decide) ?_
          refine lv_goto (tgt := 25) G.1 G.2.1 dX8_bytesOf_21 (by decide) ?_
          refine lv_iadd G.1 G.2.1 dX8_bytesOf_25 ?_
          rw [show 1 + 1 = (2 : Int32) by decide]
          refine lv_istore_n (lv' := [(1, .int 2), (2, .int 16), (0, .int wd)]) G.1 G.2.1 dX8_bytesOf_26 rfl hl (by decide) rfl (fun ls hl => ?_)
          refine lv_iinc (v := 8) (lv' := [(2, .int 8), (1, .int 2), (0, .int wd)]) G.1 G.2.1 dX8_bytesOf_27 hl (k := 1) rfl (by decide) (by decide) rfl (fun ls hl => ?_)
          refine lv_goto (tgt := 5) G.1 G.2.1 dX8_bytesOf_30 (by decide) ?_
          refine lv_iload_n G.1 G.2.1 dX8_bytesOf_5 rfl (lv_at hl 0 rfl) ?_
          refine lv_if_lt (tgt := 33) G.1 G.2.1 dX8_bytesOf_6 (by decide) (fun c_61 => ?_) (fun c_61 => ?_)
          · skip
            exact absurd c_61 (by decide)
          · skip
            refine lv_iload_n G.1 G.2.1 dX8_bytesOf_9 rfl (lv_at hl 1 rfl) ?_
            refine lv_iload_n G.1 G.2.1 dX8_bytesOf_10 rfl (lv_at hl 2 rfl) ?_
            refine lv_iload_n G.1 G.2.1 dX8_bytesOf_11 rfl (lv_at hl 0 rfl) ?_
            refine lv_iushr G.1 G.2.1 dX8_bytesOf_12 rfl ?_
            refine lv_topi (fun x_62 ex_62 => ?_)
            refine lv_sipush (v := 255) G.1 G.2.1 dX8_bytesOf_13 (by decide) ?_
            refine lv_iand G.1 G.2.1 dX8_bytesOf_16 ?_
            refine lv_topi (fun x_63 ex_63 => ?_)
            have eb_8 : x_63 = fd_b wd 8 := by rw [ex_63, ex_62]; rfl
            refine lv_if_eq (tgt := 24) G.1 G.2.1 dX8_bytesOf_17 (by decide) (fun c_64 => ?_) (fun c_64 => ?_)
            · skip
              refine lv_iconst (v := 0) G.1 G.2.1 dX8_bytesOf_24 (by decide) ?_
              refine lv_iadd G.1 G.2.1 dX8_bytesOf_25 ?_
              rw [show 2 + 0 = (2 : Int32) by decide]
              refine lv_istore_n (lv' := [(1, .int 2), (2, .int 8), (0, .int wd)]) G.1 G.2.1 dX8_bytesOf_26 rfl hl (by decide) rfl (fun ls hl => ?_)
              refine lv_iinc (v := 0) (lv' := [(2, .int 0), (1, .int 2), (0, .int wd)]) G.1 G.2.1 dX8_bytesOf_27 hl (k := 1) rfl (by decide) (by decide) rfl (fun ls hl => ?_)
              refine lv_goto (tgt := 5) G.1 G.2.1 dX8_bytesOf_30 (by decide) ?_
              refine lv_iload_n G.1 G.2.1 dX8_bytesOf_5 rfl (lv_at hl 0 rfl) ?_
              refine lv_if_lt (tgt := 33) G.1 G.2.1 dX8_bytesOf_6 (by decide) (fun c_65 => ?_) (fun c_65 => ?_)
              · skip
                exact absurd c_65 (by decide)
              · skip
                refine lv_iload_n G.1 G.2.1 dX8_bytesOf_9 rfl (lv_at hl 1 rfl) ?_
                refine lv_iload_n G.1 G.2.1 dX8_bytesOf_10 rfl (lv_at hl 2 rfl) ?_
                refine lv_iload_n G.1 G.2.1 dX8_bytesOf_11 rfl (lv_at hl 0 rfl) ?_
                refine lv_iushr G.1 G.2.1 dX8_bytesOf_12 rfl ?_
                refine lv_topi (fun x_66 ex_66 => ?_)
                refine lv_sipush (v := 255) G.1 G.2.1 dX8_bytesOf_13 (by decide) ?_
                refine lv_iand G.1 G.2.1 dX8_bytesOf_16 ?_
                refine lv_topi (fun x_67 ex_67 => ?_)
                have eb_0 : x_67 = fd_b wd 0 := by rw [ex_67, ex_66]; rfl
                refine lv_if_eq (tgt := 24) G.1 G.2.1 dX8_bytesOf_17 (by decide) (fun c_68 => ?_) (fun c_68 => ?_)
                · skip
                  refine lv_iconst (v := 0) G.1 G.2.1 dX8_bytesOf_24 (by decide) ?_
                  refine lv_iadd G.1 G.2.1 dX8_bytesOf_25 ?_
                  rw [show 2 + 0 = (2 : Int32) by decide]
                  refine lv_istore_n (lv' := [(1, .int 2), (2, .int 0), (0, .int wd)]) G.1 G.2.1 dX8_bytesOf_26 rfl hl (by decide) rfl (fun ls hl => ?_)
                  refine lv_iinc (v := (-8)) (lv' := [(2, .int (-8)), (1, .int 2), (0, .int wd)]) G.1 G.2.1 dX8_bytesOf_27 hl (k := 1) rfl (by decide) (by decide) rfl (fun ls hl => ?_)
                  refine lv_goto (tgt := 5) G.1 G.2.1 dX8_bytesOf_30 (by decide) ?_
                  refine lv_iload_n G.1 G.2.1 dX8_bytesOf_5 rfl (lv_at hl 0 rfl) ?_
                  refine lv_if_lt (tgt := 33) G.1 G.2.1 dX8_bytesOf_6 (by decide) (fun c_69 => ?_) (fun c_69 => ?_)
                  · skip
                    refine lv_iload_n G.1 G.2.1 dX8_bytesOf_33 rfl (lv_at hl 1 rfl) ?_
                    have ec_24 : fd_c (fd_b wd 24) = 1 := by rw [← eb_24]; exact fd_c1 c_4
                    have ec_16 : fd_c (fd_b wd 16) = 1 := by rw [← eb_16]; exact fd_c1 c_44
                    have ec_8 : fd_c (fd_b wd 8) = 0 := by rw [← eb_8]; exact fd_c0 c_64
                    have ec_0 : fd_c (fd_b wd 0) = 0 := by rw [← eb_0]; exact fd_c0 c_68
                    exact py_iret G hr rfl hlk hw ⟨by rw [fd_n, ec_24, ec_16, ec_8, ec_0]; rfl, rfl, rfl⟩ dX8_bytesOf_34
                  · skip
                    exact absurd c_69 (by decide)
                · skip
                  refine lv_iconst (v := 1) G.1 G.2.1 dX8_bytesOf_20 (by decide) ?_
                  refine lv_goto (tgt := 25) G.1 G.2.1 dX8_bytesOf_21 (by decide) ?_
                  refine lv_iadd G.1 G.2.1 dX8_bytesOf_25 ?_
                  rw [show 2 + 1 = (3 : Int32) by decide]
                  refine lv_istore_n (lv' := [(1, .int 3), (2, .int 0), (0, .int wd)]) G.1 G.2.1 dX8_bytesOf_26 rfl hl (by decide) rfl (fun ls hl => ?_)
                  refine lv_iinc (v := (-8)) (lv' := [(2, .int (-8)), (1, .int 3), (0, .int wd)]) G.1 G.2.1 dX8_bytesOf_27 hl (k := 1) rfl (by decide) (by decide) rfl (fun ls hl => ?_)
                  refine lv_goto (tgt := 5) G.1 G.2.1 dX8_bytesOf_30 (by decide) ?_
                  refine lv_iload_n G.1 G.2.1 dX8_bytesOf_5 rfl (lv_at hl 0 rfl) ?_
                  refine lv_if_lt (tgt := 33) G.1 G.2.1 dX8_bytesOf_6 (by decide) (fun c_70 => ?_) (fun c_70 => ?_)
                  · skip
                    refine lv_iload_n G.1 G.2.1 dX8_bytesOf_33 rfl (lv_at hl 1 rfl) ?_
                    have ec_24 : fd_c (fd_b wd 24) = 1 := by rw [← eb_24]; exact fd_c1 c_4
                    have ec_16 : fd_c (fd_b wd 16) = 1 := by rw [← eb_16]; exact fd_c1 c_44
                    have ec_8 : fd_c (fd_b wd 8) = 0 := by rw [← eb_8]; exact fd_c0 c_64
                    have ec_0 : fd_c (fd_b wd 0) = 1 := by rw [← eb_0]; exact fd_c1 c_68
                    exact py_iret G hr rfl hlk hw ⟨by rw [fd_n, ec_24, ec_16, ec_8, ec_0]; rfl, rfl, rfl⟩ dX8_bytesOf_34
                  · skip
                    exact absurd c_70 (by decide)
            · skip
              refine lv_iconst (v := 1) G.1 G.2.1 dX8_bytesOf_20 (by decide) ?_
              refine lv_goto (tgt := 25) G.1 G.2.1 dX8_bytesOf_21 (by decide) ?_
              refine lv_iadd G.1 G.2.1 dX8_bytesOf_25 ?_
              rw [show 2 + 1 = (3 : Int32) by decide]
              refine lv_istore_n (lv' := [(1, .int 3), (2, .int 8), (0, .int wd)]) G.1 G.2.1 dX8_bytesOf_26 rfl hl (by decide) rfl (fun ls hl => ?_)
              refine lv_iinc (v := 0) (lv' := [(2, .int 0), (1, .int 3), (0, .int wd)]) G.1 G.2.1 dX8_bytesOf_27 hl (k := 1) rfl (by decide) (by decide) rfl (fun ls hl => ?_)
              refine lv_goto (tgt := 5) G.1 G.2.1 dX8_bytesOf_30 (by decide) ?_
              refine lv_iload_n G.1 G.2.1 dX8_bytesOf_5 rfl (lv_at hl 0 rfl) ?_
              refine lv_if_lt (tgt := 33) G.1 G.2.1 dX8_bytesOf_6 (by decide) (fun c_71 => ?_) (fun c_71 => ?_)
              · skip
                exact absurd c_71 (by decide)
              · skip
                refine lv_iload_n G.1 G.2.1 dX8_bytesOf_9 rfl (lv_at hl 1 rfl) ?_
                refine lv_iload_n G.1 G.2.1 dX8_bytesOf_10 rfl (lv_at hl 2 rfl) ?_
                refine lv_iload_n G.1 G.2.1 dX8_bytesOf_11 rfl (lv_at hl 0 rfl) ?_
                refine lv_iushr G.1 G.2.1 dX8_bytesOf_12 rfl ?_
                refine lv_topi (fun x_72 ex_72 => ?_)
                refine lv_sipush (v := 255) G.1 G.2.1 dX8_bytesOf_13 (by decide) ?_
                refine lv_iand G.1 G.2.1 dX8_bytesOf_16 ?_
                refine lv_topi (fun x_73 ex_73 => ?_)
                have eb_0 : x_73 = fd_b wd 0 := by rw [ex_73, ex_72]; rfl
                refine lv_if_eq (tgt := 24) G.1 G.2.1 dX8_bytesOf_17 (by decide) (fun c_74 => ?_) (fun c_74 => ?_)
                · skip
                  refine lv_iconst (v := 0) G.1 G.2.1 dX8_bytesOf_24 (by decide) ?_
                  refine lv_iadd G.1 G.2.1 dX8_bytesOf_25 ?_
                  rw [show 3 + 0 = (3 : Int32) by decide]
                  refine lv_istore_n (lv' := [(1, .int 3), (2, .int 0), (0, .int wd)]) G.1 G.2.1 dX8_bytesOf_26 rfl hl (by decide) rfl (fun ls hl => ?_)
                  refine lv_iinc (v := (-8)) (lv' := [(2, .int (-8)), (1, .int 3), (0, .int wd)]) G.1 G.2.1 dX8_bytesOf_27 hl (k := 1) rfl (by decide) (by decide) rfl (fun ls hl => ?_)
                  refine lv_goto (tgt := 5) G.1 G.2.1 dX8_bytesOf_30 (by decide) ?_
                  refine lv_iload_n G.1 G.2.1 dX8_bytesOf_5 rfl (lv_at hl 0 rfl) ?_
                  refine lv_if_lt (tgt := 33) G.1 G.2.1 dX8_bytesOf_6 (by decide) (fun c_75 => ?_) (fun c_75 => ?_)
                  · skip
                    refine lv_iload_n G.1 G.2.1 dX8_bytesOf_33 rfl (lv_at hl 1 rfl) ?_
                    have ec_24 : fd_c (fd_b wd 24) = 1 := by rw [← eb_24]; exact fd_c1 c_4
                    have ec_16 : fd_c (fd_b wd 16) = 1 := by rw [← eb_16]; exact fd_c1 c_44
                    have ec_8 : fd_c (fd_b wd 8) = 1 := by rw [← eb_8]; exact fd_c1 c_64
                    have ec_0 : fd_c (fd_b wd 0) = 0 := by rw [← eb_0]; exact fd_c0 c_74
                    exact py_iret G hr rfl hlk hw ⟨by rw [fd_n, ec_24, ec_16, ec_8, ec_0]; rfl, rfl, rfl⟩ dX8_bytesOf_34
                  · skip
                    exact absurd c_75 (by decide)
                · skip
                  refine lv_iconst (v := 1) G.1 G.2.1 dX8_bytesOf_20 (by decide) ?_
                  refine lv_goto (tgt := 25) G.1 G.2.1 dX8_bytesOf_21 (by decide) ?_
                  refine lv_iadd G.1 G.2.1 dX8_bytesOf_25 ?_
                  rw [show 3 + 1 = (4 : Int32) by decide]
                  refine lv_istore_n (lv' := [(1, .int 4), (2, .int 0), (0, .int wd)]) G.1 G.2.1 dX8_bytesOf_26 rfl hl (by decide) rfl (fun ls hl => ?_)
                  refine lv_iinc (v := (-8)) (lv' := [(2, .int (-8)), (1, .int 4), (0, .int wd)]) G.1 G.2.1 dX8_bytesOf_27 hl (k := 1) rfl (by decide) (by decide) rfl (fun ls hl => ?_)
                  refine lv_goto (tgt := 5) G.1 G.2.1 dX8_bytesOf_30 (by decide) ?_
                  refine lv_iload_n G.1 G.2.1 dX8_bytesOf_5 rfl (lv_at hl 0 rfl) ?_
                  refine lv_if_lt (tgt := 33) G.1 G.2.1 dX8_bytesOf_6 (by decide) (fun c_76 => ?_) (fun c_76 => ?_)
                  · skip
                    refine lv_iload_n G.1 G.2.1 dX8_bytesOf_33 rfl (lv_at hl 1 rfl) ?_
                    have ec_24 : fd_c (fd_b wd 24) = 1 := by rw [← eb_24]; exact fd_c1 c_4
                    have ec_16 : fd_c (fd_b wd 16) = 1 := by rw [← eb_16]; exact fd_c1 c_44
                    have ec_8 : fd_c (fd_b wd 8) = 1 := by rw [← eb_8]; exact fd_c1 c_64
                    have ec_0 : fd_c (fd_b wd 0) = 1 := by rw [← eb_0]; exact fd_c1 c_74
                    exact py_iret G hr rfl hlk hw ⟨by rw [fd_n, ec_24, ec_16, ec_8, ec_0]; rfl, rfl, rfl⟩ dX8_bytesOf_34
                  · skip
                    exact absurd c_76 (by decide)

def w_X8_append : List Cond := .code yX8_append cX8_append 4 none :: ([Cond.fieldLink RX8 13 "HeadYear$Tape" "length" "I", Cond.fieldLink RX8 9 "HeadYear$Tape" "bytes" "[I"] ++ (u_ws RX8 TX8 4 ++ ([])))
theorem in_X8_append_X8 : ∀ w ∈ u_ws RX8 TX8 4, w ∈ w_X8_append := fun _ h => List.mem_cons_of_mem _ (List.mem_append_right _ (List.mem_append_left _ h))
set_option maxHeartbeats 4000000 in
set_option maxRecDepth 100000 in
theorem c_X8_append (l : Launch) (E : py_E) (L : List Nat) (f : py_F) (sz : Nat) (h : Nat) (wd : Int32) (byt k : Nat) (at0 nn : Int32) (g : Nat → Int32) (hh : py_at L f h (.inr (8, [.ref byt, .int (nI k), .int at0, .int nn]))) (hb : py_at L f byt (.inl (E.2.1, 160, .inl g))) (hk : k ≤ 150) : Met l yX8_append w_X8_append ({ frames := 0, cells := 0, slots := 0, locals := 0 }) (py_Pc E [.ref h, .int wd] L f sz) (py_Qv E L f sz (fun L1 f1 => ∃ g1 : Nat → Int32, py_at L1 f1 h (.inr (8, [.ref byt, .int (nI (k + fd_n wd)), .int at0, .int nn])) ∧ py_at L1 f1 byt (.inl (E.2.1, 160, .inl g1)) ∧ (∀ m, fr_M E L f m → fr_M E L1 f1 m) ∧ py_ext2 L f L1 f1 h byt)) 0 0 (va_A (va_pl L f) sz) := by
  refine Met.ofW (cc := cX8_append) (maxL := 4) (ret := none) (by decide) rfl ?_
  intro p e s m args below meth c s₁ B hml hv
  obtain ⟨rfl, rfl, hw⟩ := py_start hv
  have G : CallFix p m c cX8_append 4 s _ w_X8_append RX8 := ⟨B.exec, B.bytes, hml, findClass_of_methodNamed B.named, atoms_spec (ws := w_X8_append) B.pre⟩
  have hr := B.returns
  have hlk := B.notSynchronized
  have hl := lv_entry ([.ref h, .int wd]) (n := 4) (Nat.le_of_ble_eq_true rfl)
  rw [lg_entry_eq]
  generalize (lg_sl ([.ref h, .int wd]) ++ List.replicate (4 - (lg_sl ([.ref h, .int wd])).length) Slot.unset).toArray = ls at hl ⊢
  have hl : lv_has ls 4 [(0, .ref h), (1, .int wd)] := hl
  have hMp : ∀ m, fr_M E L f m → fr_M E L f m := fun _ h => h
  refine lv_bipush (v := 24) G.1 G.2.1 dX8_append_0 (by decide) ?_
  refine lv_istore_n (lv' := [(2, .int 24), (0, .ref h), (1, .int wd)]) G.1 G.2.1 dX8_append_2 rfl hl (by decide) rfl (fun ls hl => ?_)
  refine lv_iload_n G.1 G.2.1 dX8_append_3 rfl (lv_at hl 0 rfl) ?_
  refine lv_if_lt (tgt := 55) G.1 G.2.1 dX8_append_4 (by decide) (fun c_1 => ?_) (fun c_1 => ?_)
  · skip
    exact absurd c_1 (by decide)
  · skip
    refine lv_iload_n G.1 G.2.1 dX8_append_7 rfl (lv_at hl 2 rfl) ?_
    refine lv_iload_n G.1 G.2.1 dX8_append_8 rfl (lv_at hl 0 rfl) ?_
    refine lv_iushr G.1 G.2.1 dX8_append_9 rfl ?_
    refine lv_topi (fun x_2 ex_2 => ?_)
    refine lv_sipush (v := 255) G.1 G.2.1 dX8_append_10 (by decide) ?_
    refine lv_iand G.1 G.2.1 dX8_append_13 ?_
    refine lv_topi (fun x_3 ex_3 => ?_)
    have eb_24 : x_3 = fd_b wd 24 := by rw [ex_3, ex_2]; rfl
    refine lv_istore_n (lv' := [(3, .int x_3), (2, .int 24), (0, .ref h), (1, .int wd)]) G.1 G.2.1 dX8_append_14 rfl hl (by decide) rfl (fun ls hl => ?_)
    refine lv_iload_n G.1 G.2.1 dX8_append_15 rfl (lv_at hl 0 rfl) ?_
    refine lv_if_eq (tgt := 49) G.1 G.2.1 dX8_append_16 (by decide) (fun c_4 => ?_) (fun c_4 => ?_)
    · skip
      refine lv_iinc (v := 16) (lv' := [(2, .int 16), (3, .int x_3), (0, .ref h), (1, .int wd)]) G.1 G.2.1 dX8_append_49 hl (k := 1) rfl (by decide) (by decide) rfl (fun ls hl => ?_)
      refine lv_goto (tgt := 3) G.1 G.2.1 dX8_append_52 (by decide) ?_
      refine lv_iload_n G.1 G.2.1 dX8_append_3 rfl (lv_at hl 0 rfl) ?_
      refine lv_if_lt (tgt := 55) G.1 G.2.1 dX8_append_4 (by decide) (fun c_5 => ?_) (fun c_5 => ?_)
      · skip
        exact absurd c_5 (by decide)
      · skip
        refine lv_iload_n G.1 G.2.1 dX8_append_7 rfl (lv_at hl 3 rfl) ?_
        refine lv_iload_n G.1 G.2.1 dX8_append_8 rfl (lv_at hl 0 rfl) ?_
        refine lv_iushr G.1 G.2.1 dX8_append_9 rfl ?_
        refine lv_topi (fun x_6 ex_6 => ?_)
        refine lv_sipush (v := 255) G.1 G.2.1 dX8_append_10 (by decide) ?_
        refine lv_iand G.1 G.2.1 dX8_append_13 ?_
        refine lv_topi (fun x_7 ex_7 => ?_)
        have eb_16 : x_7 = fd_b wd 16 := by rw [ex_7, ex_6]; rfl
        refine lv_istore_n (lv' := [(3, .int x_7), (2, .int 16), (0, .ref h), (1, .int wd)]) G.1 G.2.1 dX8_append_14 rfl hl (by decide) rfl (fun ls hl => ?_)
        refine lv_iload_n G.1 G.2.1 dX8_append_15 rfl (lv_at hl 0 rfl) ?_
        refine lv_if_eq (tgt := 49) G.1 G.2.1 dX8_append_16 (by decide) (fun c_8 => ?_) (fun c_8 => ?_)
        · skip
          refine lv_iinc (v := 8) (lv' := [(2, .int 8), (3, .int x_7), (0, .ref h), (1, .int wd)]) G.1 G.2.1 dX8_append_49 hl (k := 1) rfl (by decide) (by decide) rfl (fun ls hl => ?_)
          refine lv_goto (tgt := 3) G.1 G.2.1 dX8_append_52 (by decide) ?_
          refine lv_iload_n G.1 G.2.1 dX8_append_3 rfl (lv_at hl 0 rfl) ?_
          refine lv_if_lt (tgt := 55) G.1 G.2.1 dX8_append_4 (by decide) (fun c_9 => ?_) (fun c_9 => ?_)
          · skip
            exact absurd c_9 (by decide)
          · skip
            refine lv_iload_n G.1 G.2.1 dX8_append_7 rfl (lv_at hl 3 rfl) ?_
            refine lv_iload_n G.1 G.2.1 dX8_append_8 rfl (lv_at hl 0 rfl) ?_
            refine lv_iushr G.1 G.2.1 dX8_append_9 rfl ?_
            refine lv_topi (fun x_10 ex_10 => ?_)
            refine lv_sipush (v := 255) G.1 G.2.1 dX8_append_10 (by decide) ?_
            refine lv_iand G.1 G.2.1 dX8_append_13 ?_
            refine lv_topi (fun x_11 ex_11 => ?_)
            have eb_8 : x_11 = fd_b wd 8 := by rw [ex_11, ex_10]; rfl
            refine lv_istore_n (lv' := [(3, .int x_11), (2, .int 8), (0, .ref h), (1, .int wd)]) G.1 G.2.1 dX8_append_14 rfl hl (by decide) rfl (fun ls hl => ?_)
            refine lv_iload_n G.1 G.2.1 dX8_append_15 rfl (lv_at hl 0 rfl) ?_
            refine lv_if_eq (tgt := 49) G.1 G.2.1 dX8_append_16 (by decide) (fun c_12 => ?_) (fun c_12 => ?_)
            · skip
              refine lv_iinc (v := 0) (lv' := [(2, .int 0), (3, .int x_11), (0, .ref h), (1, .int wd)]) G.1 G.2.1 dX8_append_49 hl (k := 1) rfl (by decide) (by decide) rfl (fun ls hl => ?_)
              refine lv_goto (tgt := 3) G.1 G.2.1 dX8_append_52 (by decide) ?_
              refine lv_iload_n G.1 G.2.1 dX8_append_3 rfl (lv_at hl 0 rfl) ?_
              refine lv_if_lt (tgt := 55) G.1 G.2.1 dX8_append_4 (by decide) (fun c_13 => ?_) (fun c_13 => ?_)
              · skip
                exact absurd c_13 (by decide)
              · skip
                refine lv_iload_n G.1 G.2.1 dX8_append_7 rfl (lv_at hl 3 rfl) ?_
                refine lv_iload_n G.1 G.2.1 dX8_append_8 rfl (lv_at hl 0 rfl) ?_
                refine lv_iushr G.1 G.2.1 dX8_append_9 rfl ?_
                refine lv_topi (fun x_14 ex_14 => ?_)
                refine lv_sipush (v := 255) G.1 G.2.1 dX8_append_10 (by decide) ?_
                refine lv_iand G.1 G.2.1 dX8_append_13 ?_
                refine lv_topi (fun x_15 ex_15 => ?_)
                have eb_0 : x_15 = fd_b wd 0 := by rw [ex_15, ex_14]; rfl
                refine lv_istore_n (lv' := [(3, .int x_15), (2, .int 0), (0, .ref h), (1, .int wd)]) G.1 G.2.1 dX8_append_14 rfl hl (by decide) rfl (fun ls hl => ?_)
                refine lv_iload_n G.1 G.2.1 dX8_append_15 rfl (lv_at hl 0 rfl) ?_
                refine lv_if_eq (tgt := 49) G.1 G.2.1 dX8_append_16 (by decide) (fun c_16 => ?_) (fun c_16 => ?_)
                · skip
                  refine lv_iinc (v := (-8)) (lv' := [(2, .int (-8)), (3, .int x_15), (0, .ref h), (1, .int wd)]) G.1 G.2.1 dX8_append_49 hl (k := 1) rfl (by decide) (by decide) rfl (fun ls hl => ?_)
                  refine lv_goto (tgt := 3) G.1 G.2.1 dX8_append_52 (by decide) ?_
                  refine lv_iload_n G.1 G.2.1 dX8_append_3 rfl (lv_at hl 0 rfl) ?_
                  refine lv_if_lt (tgt := 55) G.1 G.2.1 dX8_append_4 (by decide) (fun c_17 => ?_) (fun c_17 => ?_)
                  · skip
                    have ec_24 : fd_c (fd_b wd 24) = 0 := by rw [← eb_24]; exact fd_c0 c_4
                    have ec_16 : fd_c (fd_b wd 16) = 0 := by rw [← eb_16]; exact fd_c0 c_8
                    have ec_8 : fd_c (fd_b wd 8) = 0 := by rw [← eb_8]; exact fd_c0 c_12
                    have ec_0 : fd_c (fd_b wd 0) = 0 := by rw [← eb_0]; exact fd_c0 c_16
                    have en : fd_n wd = 0 := by rw [fd_n, ec_24, ec_16, ec_8, ec_0]
                    have xt : py_ext2 L f L f h byt := fun b hb h1 h2 => by
                      exact ⟨hb, rfl⟩
                    exact py_vret G hr hlk hw ⟨_, by rw [en]; exact hh, hb, hMp, xt⟩ dX8_append_55
                  · skip
                    exact absurd c_17 (by decide)
                · skip
                  refine lv_aload_n G.1 G.2.1 dX8_append_19 rfl (lv_at hl 2 rfl) ?_
                  refine py_get (C := RX8) (T := TX8) (N := 4) (k := 1) (v := .int (nI (k))) G hw in_X8_append_X8 rfl hh (by decide) (by decide +kernel) rfl dX8_append_20 ?_
                  refine lv_sipush (v := 160) G.1 G.2.1 dX8_append_23 (by decide) ?_
                  refine lv_icmp_ge (tgt := 49) G.1 G.2.1 dX8_append_26 (by decide) (fun c_18 => ?_) (fun c_18 => ?_)
                  · skip
                    exact absurd c_18 (nI_ge (b := 160) (by omega) (by decide))
                  · skip
                    refine lv_aload_n G.1 G.2.1 dX8_append_29 rfl (lv_at hl 2 rfl) ?_
                    refine py_get (C := RX8) (T := TX8) (N := 4) (k := 0) (v := .ref byt) G hw in_X8_append_X8 rfl hh (by decide) (by decide +kernel) rfl dX8_append_30 ?_
                    refine lv_aload_n G.1 G.2.1 dX8_append_33 rfl (lv_at hl 2 rfl) ?_
                    refine py_get (C := RX8) (T := TX8) (N := 4) (k := 1) (v := .int (nI (k))) G hw in_X8_append_X8 rfl hh (by decide) (by decide +kernel) rfl dX8_append_34 ?_
                    refine lv_iload_n G.1 G.2.1 dX8_append_37 rfl (lv_at hl 0 rfl) ?_
                    refine py_iast G hw hb (vp_in_nI (by omega) (by decide)) dX8_append_38 (fun f_19 H_20 locs h_21 x_22 hw => ?_)
                    generalize upd g _ _ = g_23 at h_21
                    have hMp : ∀ m, fr_M E L f m → fr_M E L f_19 m := fun m h => fr_M_arr (hMp m h) hb h_21 x_22
                    have hh := hh.ext x_22 (py_ne_arr hh hb)
                    refine lv_aload_n G.1 G.2.1 dX8_append_39 rfl (lv_at hl 2 rfl) ?_
                    refine lv_dup G.1 G.2.1 dX8_append_40 rfl ?_
                    refine py_get (C := RX8) (T := TX8) (N := 4) (k := 1) (v := .int (nI (k))) G hw in_X8_append_X8 rfl hh (by decide) (by decide +kernel) rfl dX8_append_41 ?_
                    refine lv_iconst (v := 1) G.1 G.2.1 dX8_append_44 (by decide) ?_
                    refine lv_iadd G.1 G.2.1 dX8_append_45 ?_
                    rw [nI_1]
                    refine py_put (C := RX8) (T := TX8) (N := 4) (k := 1) (v := .int (nI ((k) + 1))) (fs' := [.ref byt, .int (nI ((k) + 1)), .int at0, .int nn]) (ty0 := tyX8) G hw tyX8_ok nmX8 in_X8_append_X8 rfl hh (by decide) (by decide +kernel) rfl rfl rfl rfl (Nat.le_of_ble_eq_true rfl) rfl dX8_append_46 (fun f_24 H_25 locs h_26 x_27 hw => ?_)
                    have hMp : ∀ m, fr_M E L f m → fr_M E L f_24 m := fun m h => fr_M_obj (hMp m h) hh (by decide) x_27
                    have h_21 := h_21.ext x_27 (Ne.symm (py_ne_arr hh h_21))
                    refine lv_iinc (v := (-8)) (lv' := [(2, .int (-8)), (3, .int x_15), (0, .ref h), (1, .int wd)]) G.1 G.2.1 dX8_append_49 hl (k := 1) rfl (by decide) (by decide) rfl (fun ls hl => ?_)
                    refine lv_goto (tgt := 3) G.1 G.2.1 dX8_append_52 (by decide) ?_
                    refine lv_iload_n G.1 G.2.1 dX8_append_3 rfl (lv_at hl 0 rfl) ?_
                    refine lv_if_lt (tgt := 55) G.1 G.2.1 dX8_append_4 (by decide) (fun c_28 => ?_) (fun c_28 => ?_)
                    · skip
                      have ec_24 : fd_c (fd_b wd 24) = 0 := by rw [← eb_24]; exact fd_c0 c_4
                      have ec_16 : fd_c (fd_b wd 16) = 0 := by rw [← eb_16]; exact fd_c0 c_8
                      have ec_8 : fd_c (fd_b wd 8) = 0 := by rw [← eb_8]; exact fd_c0 c_12
                      have ec_0 : fd_c (fd_b wd 0) = 1 := by rw [← eb_0]; exact fd_c1 c_16
                      have en : fd_n wd = 1 := by rw [fd_n, ec_24, ec_16, ec_8, ec_0]
                      have xt : py_ext2 L f L f_24 h byt := fun b hb h1 h2 => by
                        obtain ⟨m0, e0⟩ := x_22 b hb h2
                        obtain ⟨m1, e1⟩ := x_27 b m0 h1
                        exact ⟨m1, e1.trans (e0.trans (rfl))⟩
                      exact py_vret G hr hlk hw ⟨_, by rw [en]; exact h_26, h_21, hMp, xt⟩ dX8_append_55
                    · skip
                      exact absurd c_28 (by decide)
            · skip
              refine lv_aload_n G.1 G.2.1 dX8_append_19 rfl (lv_at hl 2 rfl) ?_
              refine py_get (C := RX8) (T := TX8) (N := 4) (k := 1) (v := .int (nI (k))) G hw in_X8_append_X8 rfl hh (by decide) (by decide +kernel) rfl dX8_append_20 ?_
              refine lv_sipush (v := 160) G.1 G.2.1 dX8_append_23 (by decide) ?_
              refine lv_icmp_ge (tgt := 49) G.1 G.2.1 dX8_append_26 (by decide) (fun c_29 => ?_) (fun c_29 => ?_)
              · skip
                exact absurd c_29 (nI_ge (b := 160) (by omega) (by decide))
              · skip
                refine lv_aload_n G.1 G.2.1 dX8_append_29 rfl (lv_at hl 2 rfl) ?_
                refine py_get (C := RX8) (T := TX8) (N := 4) (k := 0) (v := .ref byt) G hw in_X8_append_X8 rfl hh (by decide) (by decide +kernel) rfl dX8_append_30 ?_
                refine lv_aload_n G.1 G.2.1 dX8_append_33 rfl (lv_at hl 2 rfl) ?_
                refine py_get (C := RX8) (T := TX8) (N := 4) (k := 1) (v := .int (nI (k))) G hw in_X8_append_X8 rfl hh (by decide) (by decide +kernel) rfl dX8_append_34 ?_
                refine lv_iload_n G.1 G.2.1 dX8_append_37 rfl (lv_at hl 0 rfl) ?_
                refine py_iast G hw hb (vp_in_nI (by omega) (by decide)) dX8_append_38 (fun f_30 H_31 locs h_32 x_33 hw => ?_)
                generalize upd g _ _ = g_34 at h_32
                have hMp : ∀ m, fr_M E L f m → fr_M E L f_30 m := fun m h => fr_M_arr (hMp m h) hb h_32 x_33
                have hh := hh.ext x_33 (py_ne_arr hh hb)
                refine lv_aload_n G.1 G.2.1 dX8_append_39 rfl (lv_at hl 2 rfl) ?_
                refine lv_dup G.1 G.2.1 dX8_append_40 rfl ?_
                refine py_get (C := RX8) (T := TX8) (N := 4) (k := 1) (v := .int (nI (k))) G hw in_X8_append_X8 rfl hh (by decide) (by decide +kernel) rfl dX8_append_41 ?_
                refine lv_iconst (v := 1) G.1 G.2.1 dX8_append_44 (by decide) ?_
                refine lv_iadd G.1 G.2.1 dX8_append_45 ?_
                rw [nI_1]
                refine py_put (C := RX8) (T := TX8) (N := 4) (k := 1) (v := .int (nI ((k) + 1))) (fs' := [.ref byt, .int (nI ((k) + 1)), .int at0, .int nn]) (ty0 := tyX8) G hw tyX8_ok nmX8 in_X8_append_X8 rfl hh (by decide) (by decide +kernel) rfl rfl rfl rfl (Nat.le_of_ble_eq_true rfl) rfl dX8_append_46 (fun f_35 H_36 locs h_37 x_38 hw => ?_)
                have hMp : ∀ m, fr_M E L f m → fr_M E L f_35 m := fun m h => fr_M_obj (hMp m h) hh (by decide) x_38
                have h_32 := h_32.ext x_38 (Ne.symm (py_ne_arr hh h_32))
                refine lv_iinc (v := 0) (lv' := [(2, .int 0), (3, .int x_11), (0, .ref h), (1, .int wd)]) G.1 G.2.1 dX8_append_49 hl (k := 1) rfl (by decide) (by decide) rfl (fun ls hl => ?_)
                refine lv_goto (tgt := 3) G.1 G.2.1 dX8_append_52 (by decide) ?_
                refine lv_iload_n G.1 G.2.1 dX8_append_3 rfl (lv_at hl 0 rfl) ?_
                refine lv_if_lt (tgt := 55) G.1 G.2.1 dX8_append_4 (by decide) (fun c_39 => ?_) (fun c_39 => ?_)
                · skip
                  exact absurd c_39 (by decide)
                · skip
                  refine lv_iload_n G.1 G.2.1 dX8_append_7 rfl (lv_at hl 3 rfl) ?_
                  refine lv_iload_n G.1 G.2.1 dX8_append_8 rfl (lv_at hl 0 rfl) ?_
                  refine lv_iushr G.1 G.2.1 dX8_append_9 rfl ?_
                  refine lv_topi (fun x_40 ex_40 => ?_)
                  refine lv_sipush (v := 255) G.1 G.2.1 dX8_append_10 (by decide) ?_
                  refine lv_iand G.1 G.2.1 dX8_append_13 ?_
                  refine lv_topi (fun x_41 ex_41 => ?_)
                  have eb_0 : x_41 = fd_b wd 0 := by rw [ex_41, ex_40]; rfl
                  refine lv_istore_n (lv' := [(3, .int x_41), (2, .int 0), (0, .ref h), (1, .int wd)]) G.1 G.2.1 dX8_append_14 rfl hl (by decide) rfl (fun ls hl => ?_)
                  refine lv_iload_n G.1 G.2.1 dX8_append_15 rfl (lv_at hl 0 rfl) ?_
                  refine lv_if_eq (tgt := 49) G.1 G.2.1 dX8_append_16 (by decide) (fun c_42 => ?_) (fun c_42 => ?_)
                  · skip
                    refine lv_iinc (v := (-8)) (lv' := [(2, .int (-8)), (3, .int x_41), (0, .ref h), (1, .int wd)]) G.1 G.2.1 dX8_append_49 hl (k := 1) rfl (by decide) (by decide) rfl (fun ls hl => ?_)
                    refine lv_goto (tgt := 3) G.1 G.2.1 dX8_append_52 (by decide) ?_
                    refine lv_iload_n G.1 G.2.1 dX8_append_3 rfl (lv_at hl 0 rfl) ?_
                    refine lv_if_lt (tgt := 55) G.1 G.2.1 dX8_append_4 (by decide) (fun c_43 => ?_) (fun c_43 => ?_)
                    · skip
                      have ec_24 : fd_c (fd_b wd 24) = 0 := by rw [← eb_24]; exact fd_c0 c_4
                      have ec_16 : fd_c (fd_b wd 16) = 0 := by rw [← eb_16]; exact fd_c0 c_8
                      have ec_8 : fd_c (fd_b wd 8) = 1 := by rw [← eb_8]; exact fd_c1 c_12
                      have ec_0 : fd_c (fd_b wd 0) = 0 := by rw [← eb_0]; exact fd_c0 c_42
                      have en : fd_n wd = 1 := by rw [fd_n, ec_24, ec_16, ec_8, ec_0]
                      have xt : py_ext2 L f L f_35 h byt := fun b hb h1 h2 => by
                        obtain ⟨m0, e0⟩ := x_33 b hb h2
                        obtain ⟨m1, e1⟩ := x_38 b m0 h1
                        exact ⟨m1, e1.trans (e0.trans (rfl))⟩
                      exact py_vret G hr hlk hw ⟨_, by rw [en]; exact h_37, h_32, hMp, xt⟩ dX8_append_55
                    · skip
                      exact absurd c_43 (by decide)
                  · skip
                    refine lv_aload_n G.1 G.2.1 dX8_append_19 rfl (lv_at hl 2 rfl) ?_
                    refine py_get (C := RX8) (T := TX8) (N := 4) (k := 1) (v := .int (nI ((k) + 1))) G hw in_X8_append_X8 rfl h_37 (by decide) (by decide +kernel) rfl dX8_append_20 ?_
                    refine lv_sipush (v := 160) G.1 G.2.1 dX8_append_23 (by decide) ?_
                    refine lv_icmp_ge (tgt := 49) G.1 G.2.1 dX8_append_26 (by decide) (fun c_44 => ?_) (fun c_44 => ?_)
                    · skip
                      exact absurd c_44 (nI_ge (b := 160) (by omega) (by decide))
                    · skip
                      refine lv_aload_n G.1 G.2.1 dX8_append_29 rfl (lv_at hl 2 rfl) ?_
                      refine py_get (C := RX8) (T := TX8) (N := 4) (k := 0) (v := .ref byt) G hw in_X8_append_X8 rfl h_37 (by decide) (by decide +kernel) rfl dX8_append_30 ?_
                      refine lv_aload_n G.1 G.2.1 dX8_append_33 rfl (lv_at hl 2 rfl) ?_
                      refine py_get (C := RX8) (T := TX8) (N := 4) (k := 1) (v := .int (nI ((k) + 1))) G hw in_X8_append_X8 rfl h_37 (by decide) (by decide +kernel) rfl dX8_append_34 ?_
                      refine lv_iload_n G.1 G.2.1 dX8_append_37 rfl (lv_at hl 0 rfl) ?_
                      refine py_iast G hw h_32 (vp_in_nI (by omega) (by decide)) dX8_append_38 (fun f_45 H_46 locs h_47 x_48 hw => ?_)
                      generalize upd g_34 _ _ = g_49 at h_47
                      have hMp : ∀ m, fr_M E L f m → fr_M E L f_45 m := fun m h => fr_M_arr (hMp m h) h_32 h_47 x_48
                      have h_37 := h_37.ext x_48 (py_ne_arr h_37 h_32)
                      refine lv_aload_n G.1 G.2.1 dX8_append_39 rfl (lv_at hl 2 rfl) ?_
                      refine lv_dup G.1 G.2.1 dX8_append_40 rfl ?_
                      refine py_get (C := RX8) (T := TX8) (N := 4) (k := 1) (v := .int (nI ((k) + 1))) G hw in_X8_append_X8 rfl h_37 (by decide) (by decide +kernel) rfl dX8_append_41 ?_
                      refine lv_iconst (v := 1) G.1 G.2.1 dX8_append_44 (by decide) ?_
                      refine lv_iadd G.1 G.2.1 dX8_append_45 ?_
                      rw [nI_1]
                      refine py_put (C := RX8) (T := TX8) (N := 4) (k := 1) (v := .int (nI (((k) + 1) + 1))) (fs' := [.ref byt, .int (nI (((k) + 1) + 1)), .int at0, .int nn]) (ty0 := tyX8) G hw tyX8_ok nmX8 in_X8_append_X8 rfl h_37 (by decide) (by decide +kernel) rfl rfl rfl rfl (Nat.le_of_ble_eq_true rfl) rfl dX8_append_46 (fun f_50 H_51 locs h_52 x_53 hw => ?_)
                      have hMp : ∀ m, fr_M E L f m → fr_M E L f_50 m := fun m h => fr_M_obj (hMp m h) h_37 (by decide) x_53
                      have h_47 := h_47.ext x_53 (Ne.symm (py_ne_arr h_37 h_47))
                      refine lv_iinc (v := (-8)) (lv' := [(2, .int (-8)), (3, .int x_41), (0, .ref h), (1, .int wd)]) G.1 G.2.1 dX8_append_49 hl (k := 1) rfl (by decide) (by decide) rfl (fun ls hl => ?_)
                      refine lv_goto (tgt := 3) G.1 G.2.1 dX8_append_52 (by decide) ?_
                      refine lv_iload_n G.1 G.2.1 dX8_append_3 rfl (lv_at hl 0 rfl) ?_
                      refine lv_if_lt (tgt := 55) G.1 G.2.1 dX8_append_4 (by decide) (fun c_54 => ?_) (fun c_54 => ?_)
                      · skip
                        have ec_24 : fd_c (fd_b wd 24) = 0 := by rw [← eb_24]; exact fd_c0 c_4
                        have ec_16 : fd_c (fd_b wd 16) = 0 := by rw [← eb_16]; exact fd_c0 c_8
                        have ec_8 : fd_c (fd_b wd 8) = 1 := by rw [← eb_8]; exact fd_c1 c_12
                        have ec_0 : fd_c (fd_b wd 0) = 1 := by rw [← eb_0]; exact fd_c1 c_42
                        have en : fd_n wd = 2 := by rw [fd_n, ec_24, ec_16, ec_8, ec_0]
                        have xt : py_ext2 L f L f_50 h byt := fun b hb h1 h2 => by
                          obtain ⟨m0, e0⟩ := x_33 b hb h2
                          obtain ⟨m1, e1⟩ := x_38 b m0 h1
                          obtain ⟨m2, e2⟩ := x_48 b m1 h2
                          obtain ⟨m3, e3⟩ := x_53 b m2 h1
                          exact ⟨m3, e3.trans (e2.trans (e1.trans (e0.trans (rfl))))⟩
                        exact py_vret G hr hlk hw ⟨_, by rw [en]; exact h_52, h_47, hMp, xt⟩ dX8_append_55
                      · skip
                        exact absurd c_54 (by decide)
        · skip
          refine lv_aload_n G.1 G.2.1 dX8_append_19 rfl (lv_at hl 2 rfl) ?_
          refine py_get (C := RX8) (T := TX8) (N := 4) (k := 1) (v := .int (nI (k))) G hw in_X8_append_X8 rfl hh (by decide) (by decide +kernel) rfl dX8_append_20 ?_
          refine lv_sipush (v := 160) G.1 G.2.1 dX8_append_23 (by decide) ?_
          refine lv_icmp_ge (tgt := 49) G.1 G.2.1 dX8_append_26 (by decide) (fun c_55 => ?_) (fun c_55 => ?_)
          · skip
            exact absurd c_55 (nI_ge (b := 160) (by omega) (by decide))
          · skip
            refine lv_aload_n G.1 G.2.1 dX8_append_29 rfl (lv_at hl 2 rfl) ?_
            refine py_get (C := RX8) (T := TX8) (N := 4) (k := 0) (v := .ref byt) G hw in_X8_append_X8 rfl hh (by decide) (by decide +kernel) rfl dX8_append_30 ?_
            refine lv_aload_n G.1 G.2.1 dX8_append_33 rfl (lv_at hl 2 rfl) ?_
            refine py_get (C := RX8) (T := TX8) (N := 4) (k := 1) (v := .int (nI (k))) G hw in_X8_append_X8 rfl hh (by decide) (by decide +kernel) rfl dX8_append_34 ?_
            refine lv_iload_n G.1 G.2.1 dX8_append_37 rfl (lv_at hl 0 rfl) ?_
            refine py_iast G hw hb (vp_in_nI (by omega) (by decide)) dX8_append_38 (fun f_56 H_57 locs h_58 x_59 hw => ?_)
            generalize upd g _ _ = g_60 at h_58
            have hMp : ∀ m, fr_M E L f m → fr_M E L f_56 m := fun m h => fr_M_arr (hMp m h) hb h_58 x_59
            have hh := hh.ext x_59 (py_ne_arr hh hb)
            refine lv_aload_n G.1 G.2.1 dX8_append_39 rfl (lv_at hl 2 rfl) ?_
            refine lv_dup G.1 G.2.1 dX8_append_40 rfl ?_
            refine py_get (C := RX8) (T := TX8) (N := 4) (k := 1) (v := .int (nI (k))) G hw in_X8_append_X8 rfl hh (by decide) (by decide +kernel) rfl dX8_append_41 ?_
            refine lv_iconst (v := 1) G.1 G.2.1 dX8_append_44 (by decide) ?_
            refine lv_iadd G.1 G.2.1 dX8_append_45 ?_
            rw [nI_1]
            refine py_put (C := RX8) (T := TX8) (N := 4) (k := 1) (v := .int (nI ((k) + 1))) (fs' := [.ref byt, .int (nI ((k) + 1)), .int at0, .int nn]) (ty0 := tyX8) G hw tyX8_ok nmX8 in_X8_append_X8 rfl hh (by decide) (by decide +kernel) rfl rfl rfl rfl (Nat.le_of_ble_eq_true rfl) rfl dX8_append_46 (fun f_61 H_62 locs h_63 x_64 hw => ?_)
            have hMp : ∀ m, fr_M E L f m → fr_M E L f_61 m := fun m h => fr_M_obj (hMp m h) hh (by decide) x_64
            have h_58 := h_58.ext x_64 (Ne.symm (py_ne_arr hh h_58))
            refine lv_iinc (v := 8) (lv' := [(2, .int 8), (3, .int x_7), (0, .ref h), (1, .int wd)]) G.1 G.2.1 dX8_append_49 hl (k := 1) rfl (by decide) (by decide) rfl (fun ls hl => ?_)
            refine lv_goto (tgt := 3) G.1 G.2.1 dX8_append_52 (by decide) ?_
            refine lv_iload_n G.1 G.2.1 dX8_append_3 rfl (lv_at hl 0 rfl) ?_
            refine lv_if_lt (tgt := 55) G.1 G.2.1 dX8_append_4 (by decide) (fun c_65 => ?_) (fun c_65 => ?_)
            · skip
              exact absurd c_65 (by decide)
            · skip
              refine lv_iload_n G.1 G.2.1 dX8_append_7 rfl (lv_at hl 3 rfl) ?_
              refine lv_iload_n G.1 G.2.1 dX8_append_8 rfl (lv_at hl 0 rfl) ?_
              refine lv_iushr G.1 G.2.1 dX8_append_9 rfl ?_
              refine lv_topi (fun x_66 ex_66 => ?_)
              refine lv_sipush (v := 255) G.1 G.2.1 dX8_append_10 (by decide) ?_
              refine lv_iand G.1 G.2.1 dX8_append_13 ?_
              refine lv_topi (fun x_67 ex_67 => ?_)
              have eb_8 : x_67 = fd_b wd 8 := by rw [ex_67, ex_66]; rfl
              refine lv_istore_n (lv' := [(3, .int x_67), (2, .int 8), (0, .ref h), (1, .int wd)]) G.1 G.2.1 dX8_append_14 rfl hl (by decide) rfl (fun ls hl => ?_)
              refine lv_iload_n G.1 G.2.1 dX8_append_15 rfl (lv_at hl 0 rfl) ?_
              refine lv_if_eq (tgt := 49) G.1 G.2.1 dX8_append_16 (by decide) (fun c_68 => ?_) (fun c_68 => ?_)
              · skip
                refine lv_iinc (v := 0) (lv' := [(2, .int 0), (3, .int x_67), (0, .ref h), (1, .int wd)]) G.1 G.2.1 dX8_append_49 hl (k := 1) rfl (by decide) (by decide) rfl (fun ls hl => ?_)
                refine lv_goto (tgt := 3) G.1 G.2.1 dX8_append_52 (by decide) ?_
                refine lv_iload_n G.1 G.2.1 dX8_append_3 rfl (lv_at hl 0 rfl) ?_
                refine lv_if_lt (tgt := 55) G.1 G.2.1 dX8_append_4 (by decide) (fun c_69 => ?_) (fun c_69 => ?_)
                · skip
                  exact absurd c_69 (by decide)
                · skip
                  refine lv_iload_n G.1 G.2.1 dX8_append_7 rfl (lv_at hl 3 rfl) ?_
                  refine lv_iload_n G.1 G.2.1 dX8_append_8 rfl (lv_at hl 0 rfl) ?_
                  refine lv_iushr G.1 G.2.1 dX8_append_9 rfl ?_
                  refine lv_topi (fun x_70 ex_70 => ?_)
                  refine lv_sipush (v := 255) G.1 G.2.1 dX8_append_10 (by decide) ?_
                  refine lv_iand G.1 G.2.1 dX8_append_13 ?_
                  refine lv_topi (fun x_71 ex_71 => ?_)
                  have eb_0 : x_71 = fd_b wd 0 := by rw [ex_71, ex_70]; rfl
                  refine lv_istore_n (lv' := [(3, .int x_71), (2, .int 0), (0, .ref h), (1, .int wd)]) G.1 G.2.1 dX8_append_14 rfl hl (by decide) rfl (fun ls hl => ?_)
                  refine lv_iload_n G.1 G.2.1 dX8_append_15 rfl (lv_at hl 0 rfl) ?_
                  refine lv_if_eq (tgt := 49) G.1 G.2.1 dX8_append_16 (by decide) (fun c_72 => ?_) (fun c_72 => ?_)
                  · skip
                    refine lv_iinc (v := (-8)) (lv' := [(2, .int (-8)), (3, .int x_71), (0, .ref h), (1, .int wd)]) G.1 G.2.1 dX8_append_49 hl (k := 1) rfl (by decide) (by decide) rfl (fun ls hl => ?_)
                    refine lv_goto (tgt := 3) G.1 G.2.1 dX8_append_52 (by decide) ?_
                    refine lv_iload_n G.1 G.2.1 dX8_append_3 rfl (lv_at hl 0 rfl) ?_
                    refine lv_if_lt (tgt := 55) G.1 G.2.1 dX8_append_4 (by decide) (fun c_73 => ?_) (fun c_73 => ?_)
                    · skip
                      have ec_24 : fd_c (fd_b wd 24) = 0 := by rw [← eb_24]; exact fd_c0 c_4
                      have ec_16 : fd_c (fd_b wd 16) = 1 := by rw [← eb_16]; exact fd_c1 c_8
                      have ec_8 : fd_c (fd_b wd 8) = 0 := by rw [← eb_8]; exact fd_c0 c_68
                      have ec_0 : fd_c (fd_b wd 0) = 0 := by rw [← eb_0]; exact fd_c0 c_72
                      have en : fd_n wd = 1 := by rw [fd_n, ec_24, ec_16, ec_8, ec_0]
                      have xt : py_ext2 L f L f_61 h byt := fun b hb h1 h2 => by
                        obtain ⟨m0, e0⟩ := x_59 b hb h2
                        obtain ⟨m1, e1⟩ := x_64 b m0 h1
                        exact ⟨m1, e1.trans (e0.trans (rfl))⟩
                      exact py_vret G hr hlk hw ⟨_, by rw [en]; exact h_63, h_58, hMp, xt⟩ dX8_append_55
                    · skip
                      exact absurd c_73 (by decide)
                  · skip
                    refine lv_aload_n G.1 G.2.1 dX8_append_19 rfl (lv_at hl 2 rfl) ?_
                    refine py_get (C := RX8) (T := TX8) (N := 4) (k := 1) (v := .int (nI ((k) + 1))) G hw in_X8_append_X8 rfl h_63 (by decide) (by decide +kernel) rfl dX8_append_20 ?_
                    refine lv_sipush (v := 160) G.1 G.2.1 dX8_append_23 (by decide) ?_
                    refine lv_icmp_ge (tgt := 49) G.1 G.2.1 dX8_append_26 (by decide) (fun c_74 => ?_) (fun c_74 => ?_)
                    · skip
                      exact absurd c_74 (nI_ge (b := 160) (by omega) (by decide))
                    · skip
                      refine lv_aload_n G.1 G.2.1 dX8_append_29 rfl (lv_at hl 2 rfl) ?_
                      refine py_get (C := RX8) (T := TX8) (N := 4) (k := 0) (v := .ref byt) G hw in_X8_append_X8 rfl h_63 (by decide) (by decide +kernel) rfl dX8_append_30 ?_
                      refine lv_aload_n G.1 G.2.1 dX8_append_33 rfl (lv_at hl 2 rfl) ?_
                      refine py_get (C := RX8) (T := TX8) (N := 4) (k := 1) (v := .int (nI ((k) + 1))) G hw in_X8_append_X8 rfl h_63 (by decide) (by decide +kernel) rfl dX8_append_34 ?_
                      refine lv_iload_n G.1 G.2.1 dX8_append_37 rfl (lv_at hl 0 rfl) ?_
                      refine py_iast G hw h_58 (vp_in_nI (by omega) (by decide)) dX8_append_38 (fun f_75 H_76 locs h_77 x_78 hw => ?_)
                      generalize upd g_60 _ _ = g_79 at h_77
                      have hMp : ∀ m, fr_M E L f m → fr_M E L f_75 m := fun m h => fr_M_arr (hMp m h) h_58 h_77 x_78
                      have h_63 := h_63.ext x_78 (py_ne_arr h_63 h_58)
                      refine lv_aload_n G.1 G.2.1 dX8_append_39 rfl (lv_at hl 2 rfl) ?_
                      refine lv_dup G.1 G.2.1 dX8_append_40 rfl ?_
                      refine py_get (C := RX8) (T := TX8) (N := 4) (k := 1) (v := .int (nI ((k) + 1))) G hw in_X8_append_X8 rfl h_63 (by decide) (by decide +kernel) rfl dX8_append_41 ?_
                      refine lv_iconst (v := 1) G.1 G.2.1 dX8_append_44 (by decide) ?_
                      refine lv_iadd G.1 G.2.1 dX8_append_45 ?_
                      rw [nI_1]
                      refine py_put (C := RX8) (T := TX8) (N := 4) (k := 1) (v := .int (nI (((k) + 1) + 1))) (fs' := [.ref byt, .int (nI (((k) + 1) + 1)), .int at0, .int nn]) (ty0 := tyX8) G hw tyX8_ok nmX8 in_X8_append_X8 rfl h_63 (by decide) (by decide +kernel) rfl rfl rfl rfl (Nat.le_of_ble_eq_true rfl) rfl dX8_append_46 (fun f_80 H_81 locs h_82 x_83 hw => ?_)
                      have hMp : ∀ m, fr_M E L f m → fr_M E L f_80 m := fun m h => fr_M_obj (hMp m h) h_63 (by decide) x_83
                      have h_77 := h_77.ext x_83 (Ne.symm (py_ne_arr h_63 h_77))
                      refine lv_iinc (v := (-8)) (lv' := [(2, .int (-8)), (3, .int x_71), (0, .ref h), (1, .int wd)]) G.1 G.2.1 dX8_append_49 hl (k := 1) rfl (by decide) (by decide) rfl (fun ls hl => ?_)
                      refine lv_goto (tgt := 3) G.1 G.2.1 dX8_append_52 (by decide) ?_
                      refine lv_iload_n G.1 G.2.1 dX8_append_3 rfl (lv_at hl 0 rfl) ?_
                      refine lv_if_lt (tgt := 55) G.1 G.2.1 dX8_append_4 (by decide) (fun c_84 => ?_) (fun c_84 => ?_)
                      · skip
                        have ec_24 : fd_c (fd_b wd 24) = 0 := by rw [← eb_24]; exact fd_c0 c_4
                        have ec_16 : fd_c (fd_b wd 16) = 1 := by rw [← eb_16]; exact fd_c1 c_8
                        have ec_8 : fd_c (fd_b wd 8) = 0 := by rw [← eb_8]; exact fd_c0 c_68
                        have ec_0 : fd_c (fd_b wd 0) = 1 := by rw [← eb_0]; exact fd_c1 c_72
                        have en : fd_n wd = 2 := by rw [fd_n, ec_24, ec_16, ec_8, ec_0]
                        have xt : py_ext2 L f L f_80 h byt := fun b hb h1 h2 => by
                          obtain ⟨m0, e0⟩ := x_59 b hb h2
                          obtain ⟨m1, e1⟩ := x_64 b m0 h1
                          obtain ⟨m2, e2⟩ := x_78 b m1 h2
                          obtain ⟨m3, e3⟩ := x_83 b m2 h1
                          exact ⟨m3, e3.trans (e2.trans (e1.trans (e0.trans (rfl))))⟩
                        exact py_vret G hr hlk hw ⟨_, by rw [en]; exact h_82, h_77, hMp, xt⟩ dX8_append_55
                      · skip
                        exact absurd c_84 (by decide)
              · skip
                refine lv_aload_n G.1 G.2.1 dX8_append_19 rfl (lv_at hl 2 rfl) ?_
                refine py_get (C := RX8) (T := TX8) (N := 4) (k := 1) (v := .int (nI ((k) + 1))) G hw in_X8_append_X8 rfl h_63 (by decide) (by decide +kernel) rfl dX8_append_20 ?_
                refine lv_sipush (v := 160) G.1 G.2.1 dX8_append_23 (by decide) ?_
                refine lv_icmp_ge (tgt := 49) G.1 G.2.1 dX8_append_26 (by decide) (fun c_85 => ?_) (fun c_85 => ?_)
                · skip
                  exact absurd c_85 (nI_ge (b := 160) (by omega) (by decide))
                · skip
                  refine lv_aload_n G.1 G.2.1 dX8_append_29 rfl (lv_at hl 2 rfl) ?_
                  refine py_get (C := RX8) (T := TX8) (N := 4) (k := 0) (v := .ref byt) G hw in_X8_append_X8 rfl h_63 (by decide) (by decide +kernel) rfl dX8_append_30 ?_
                  refine lv_aload_n G.1 G.2.1 dX8_append_33 rfl (lv_at hl 2 rfl) ?_
                  refine py_get (C := RX8) (T := TX8) (N := 4) (k := 1) (v := .int (nI ((k) + 1))) G hw in_X8_append_X8 rfl h_63 (by decide) (by decide +kernel) rfl dX8_append_34 ?_
                  refine lv_iload_n G.1 G.2.1 dX8_append_37 rfl (lv_at hl 0 rfl) ?_
                  refine py_iast G hw h_58 (vp_in_nI (by omega) (by decide)) dX8_append_38 (fun f_86 H_87 locs h_88 x_89 hw => ?_)
                  generalize upd g_60 _ _ = g_90 at h_88
                  have hMp : ∀ m, fr_M E L f m → fr_M E L f_86 m := fun m h => fr_M_arr (hMp m h) h_58 h_88 x_89
                  have h_63 := h_63.ext x_89 (py_ne_arr h_63 h_58)
                  refine lv_aload_n G.1 G.2.1 dX8_append_39 rfl (lv_at hl 2 rfl) ?_
                  refine lv_dup G.1 G.2.1 dX8_append_40 rfl ?_
                  refine py_get (C := RX8) (T := TX8) (N := 4) (k := 1) (v := .int (nI ((k) + 1))) G hw in_X8_append_X8 rfl h_63 (by decide) (by decide +kernel) rfl dX8_append_41 ?_
                  refine lv_iconst (v := 1) G.1 G.2.1 dX8_append_44 (by decide) ?_
                  refine lv_iadd G.1 G.2.1 dX8_append_45 ?_
                  rw [nI_1]
                  refine py_put (C := RX8) (T := TX8) (N := 4) (k := 1) (v := .int (nI (((k) + 1) + 1))) (fs' := [.ref byt, .int (nI (((k) + 1) + 1)), .int at0, .int nn]) (ty0 := tyX8) G hw tyX8_ok nmX8 in_X8_append_X8 rfl h_63 (by decide) (by decide +kernel) rfl rfl rfl rfl (Nat.le_of_ble_eq_true rfl) rfl dX8_append_46 (fun f_91 H_92 locs h_93 x_94 hw => ?_)
                  have hMp : ∀ m, fr_M E L f m → fr_M E L f_91 m := fun m h => fr_M_obj (hMp m h) h_63 (by decide) x_94
                  have h_88 := h_88.ext x_94 (Ne.symm (py_ne_arr h_63 h_88))
                  refine lv_iinc (v := 0) (lv' := [(2, .int 0), (3, .int x_67), (0, .ref h), (1, .int wd)]) G.1 G.2.1 dX8_append_49 hl (k := 1) rfl (by decide) (by decide) rfl (fun ls hl => ?_)
                  refine lv_goto (tgt := 3) G.1 G.2.1 dX8_append_52 (by decide) ?_
                  refine lv_iload_n G.1 G.2.1 dX8_append_3 rfl (lv_at hl 0 rfl) ?_
                  refine lv_if_lt (tgt := 55) G.1 G.2.1 dX8_append_4 (by decide) (fun c_95 => ?_) (fun c_95 => ?_)
                  · skip
                    exact absurd c_95 (by decide)
                  · skip
                    refine lv_iload_n G.1 G.2.1 dX8_append_7 rfl (lv_at hl 3 rfl) ?_
                    refine lv_iload_n G.1 G.2.1 dX8_append_8 rfl (lv_at hl 0 rfl) ?_
                    refine lv_iushr G.1 G.2.1 dX8_append_9 rfl ?_
                    refine lv_topi (fun x_96 ex_96 => ?_)
                    refine lv_sipush (v := 255) G.1 G.2.1 dX8_append_10 (by decide) ?_
                    refine lv_iand G.1 G.2.1 dX8_append_13 ?_
                    refine lv_topi (fun x_97 ex_97 => ?_)
                    have eb_0 : x_97 = fd_b wd 0 := by rw [ex_97, ex_96]; rfl
                    refine lv_istore_n (lv' := [(3, .int x_97), (2, .int 0), (0, .ref h), (1, .int wd)]) G.1 G.2.1 dX8_append_14 rfl hl (by decide) rfl (fun ls hl => ?_)
                    refine lv_iload_n G.1 G.2.1 dX8_append_15 rfl (lv_at hl 0 rfl) ?_
                    refine lv_if_eq (tgt := 49) G.1 G.2.1 dX8_append_16 (by decide) (fun c_98 => ?_) (fun c_98 => ?_)
                    · skip
                      refine lv_iinc (v := (-8)) (lv' := [(2, .int (-8)), (3, .int x_97), (0, .ref h), (1, .int wd)]) G.1 G.2.1 dX8_append_49 hl (k := 1) rfl (by decide) (by decide) rfl (fun ls hl => ?_)
                      refine lv_goto (tgt := 3) G.1 G.2.1 dX8_append_52 (by decide) ?_
                      refine lv_iload_n G.1 G.2.1 dX8_append_3 rfl (lv_at hl 0 rfl) ?_
                      refine lv_if_lt (tgt := 55) G.1 G.2.1 dX8_append_4 (by decide) (fun c_99 => ?_) (fun c_99 => ?_)
                      · skip
                        have ec_24 : fd_c (fd_b wd 24) = 0 := by rw [← eb_24]; exact fd_c0 c_4
                        have ec_16 : fd_c (fd_b wd 16) = 1 := by rw [← eb_16]; exact fd_c1 c_8
                        have ec_8 : fd_c (fd_b wd 8) = 1 := by rw [← eb_8]; exact fd_c1 c_68
                        have ec_0 : fd_c (fd_b wd 0) = 0 := by rw [← eb_0]; exact fd_c0 c_98
                        have en : fd_n wd = 2 := by rw [fd_n, ec_24, ec_16, ec_8, ec_0]
                        have xt : py_ext2 L f L f_91 h byt := fun b hb h1 h2 => by
                          obtain ⟨m0, e0⟩ := x_59 b hb h2
                          obtain ⟨m1, e1⟩ := x_64 b m0 h1
                          obtain ⟨m2, e2⟩ := x_89 b m1 h2
                          obtain ⟨m3, e3⟩ := x_94 b m2 h1
                          exact ⟨m3, e3.trans (e2.trans (e1.trans (e0.trans (rfl))))⟩
                        exact py_vret G hr hlk hw ⟨_, by rw [en]; exact h_93, h_88, hMp, xt⟩ dX8_append_55
                      · skip
                        exact absurd c_99 (by decide)
                    · skip
                      refine lv_aload_n G.1 G.2.1 dX8_append_19 rfl (lv_at hl 2 rfl) ?_
                      refine py_get (C := RX8) (T := TX8) (N := 4) (k := 1) (v := .int (nI (((k) + 1) + 1))) G hw in_X8_append_X8 rfl h_93 (by decide) (by decide +kernel) rfl dX8_append_20 ?_
                      refine lv_sipush (v := 160) G.1 G.2.1 dX8_append_23 (by decide) ?_
                      refine lv_icmp_ge (tgt := 49) G.1 G.2.1 dX8_append_26 (by decide) (fun c_100 => ?_) (fun c_100 => ?_)
                      · skip
                        exact absurd c_100 (nI_ge (b := 160) (by omega) (by decide))
                      · skip
                        refine lv_aload_n G.1 G.2.1 dX8_append_29 rfl (lv_at hl 2 rfl) ?_
                        refine py_get (C := RX8) (T := TX8) (N := 4) (k := 0) (v := .ref byt) G hw in_X8_append_X8 rfl h_93 (by decide) (by decide +kernel) rfl dX8_append_30 ?_
                        refine lv_aload_n G.1 G.2.1 dX8_append_33 rfl (lv_at hl 2 rfl) ?_
                        refine py_get (C := RX8) (T := TX8) (N := 4) (k := 1) (v := .int (nI (((k) + 1) + 1))) G hw in_X8_append_X8 rfl h_93 (by decide) (by decide +kernel) rfl dX8_append_34 ?_
                        refine lv_iload_n G.1 G.2.1 dX8_append_37 rfl (lv_at hl 0 rfl) ?_
                        refine py_iast G hw h_88 (vp_in_nI (by omega) (by decide)) dX8_append_38 (fun f_101 H_102 locs h_103 x_104 hw => ?_)
                        generalize upd g_90 _ _ = g_105 at h_103
                        have hMp : ∀ m, fr_M E L f m → fr_M E L f_101 m := fun m h => fr_M_arr (hMp m h) h_88 h_103 x_104
                        have h_93 := h_93.ext x_104 (py_ne_arr h_93 h_88)
                        refine lv_aload_n G.1 G.2.1 dX8_append_39 rfl (lv_at hl 2 rfl) ?_
                        refine lv_dup G.1 G.2.1 dX8_append_40 rfl ?_
                        refine py_get (C := RX8) (T := TX8) (N := 4) (k := 1) (v := .int (nI (((k) + 1) + 1))) G hw in_X8_append_X8 rfl h_93 (by decide) (by decide +kernel) rfl dX8_append_41 ?_
                        refine lv_iconst (v := 1) G.1 G.2.1 dX8_append_44 (by decide) ?_
                        refine lv_iadd G.1 G.2.1 dX8_append_45 ?_
                        rw [nI_1]
                        refine py_put (C := RX8) (T := TX8) (N := 4) (k := 1) (v := .int (nI ((((k) + 1) + 1) + 1))) (fs' := [.ref byt, .int (nI ((((k) + 1) + 1) + 1)), .int at0, .int nn]) (ty0 := tyX8) G hw tyX8_ok nmX8 in_X8_append_X8 rfl h_93 (by decide) (by decide +kernel) rfl rfl rfl rfl (Nat.le_of_ble_eq_true rfl) rfl dX8_append_46 (fun f_106 H_107 locs h_108 x_109 hw => ?_)
                        have hMp : ∀ m, fr_M E L f m → fr_M E L f_106 m := fun m h => fr_M_obj (hMp m h) h_93 (by decide) x_109
                        have h_103 := h_103.ext x_109 (Ne.symm (py_ne_arr h_93 h_103))
                        refine lv_iinc (v := (-8)) (lv' := [(2, .int (-8)), (3, .int x_97), (0, .ref h), (1, .int wd)]) G.1 G.2.1 dX8_append_49 hl (k := 1) rfl (by decide) (by decide) rfl (fun ls hl => ?_)
                        refine lv_goto (tgt := 3) G.1 G.2.1 dX8_append_52 (by decide) ?_
                        refine lv_iload_n G.1 G.2.1 dX8_append_3 rfl (lv_at hl 0 rfl) ?_
                        refine lv_if_lt (tgt := 55) G.1 G.2.1 dX8_append_4 (by decide) (fun c_110 => ?_) (fun c_110 => ?_)
                        · skip
                          have ec_24 : fd_c (fd_b wd 24) = 0 := by rw [← eb_24]; exact fd_c0 c_4
                          have ec_16 : fd_c (fd_b wd 16) = 1 := by rw [← eb_16]; exact fd_c1 c_8
                          have ec_8 : fd_c (fd_b wd 8) = 1 := by rw [← eb_8]; exact fd_c1 c_68
                          have ec_0 : fd_c (fd_b wd 0) = 1 := by rw [← eb_0]; exact fd_c1 c_98
                          have en : fd_n wd = 3 := by rw [fd_n, ec_24, ec_16, ec_8, ec_0]
                          have xt : py_ext2 L f L f_106 h byt := fun b hb h1 h2 => by
                            obtain ⟨m0, e0⟩ := x_59 b hb h2
                            obtain ⟨m1, e1⟩ := x_64 b m0 h1
                            obtain ⟨m2, e2⟩ := x_89 b m1 h2
                            obtain ⟨m3, e3⟩ := x_94 b m2 h1
                            obtain ⟨m4, e4⟩ := x_104 b m3 h2
                            obtain ⟨m5, e5⟩ := x_109 b m4 h1
                            exact ⟨m5, e5.trans (e4.trans (e3.trans (e2.trans (e1.trans (e0.trans (rfl))))))⟩
                          exact py_vret G hr hlk hw ⟨_, by rw [en]; exact h_108, h_103, hMp, xt⟩ dX8_append_55
                        · skip
                          exact absurd c_110 (by decide)
    · skip
      refine lv_aload_n G.1 G.2.1 dX8_append_19 rfl (lv_at hl 2 rfl) ?_
      refine py_get (C := RX8) (T := TX8) (N := 4) (k := 1) (v := .int (nI (k))) G hw in_X8_append_X8 rfl hh (by decide) (by decide +kernel) rfl dX8_append_20 ?_
      refine lv_sipush (v := 160) G.1 G.2.1 dX8_append_23 (by decide) ?_
      refine lv_icmp_ge (tgt := 49) G.1 G.2.1 dX8_append_26 (by decide) (fun c_111 => ?_) (fun c_111 => ?_)
      · skip
        exact absurd c_111 (nI_ge (b := 160) (by omega) (by decide))
      · skip
        refine lv_aload_n G.1 G.2.1 dX8_append_29 rfl (lv_at hl 2 rfl) ?_
        refine py_get (C := RX8) (T := TX8) (N := 4) (k := 0) (v := .ref byt) G hw in_X8_append_X8 rfl hh (by decide) (by decide +kernel) rfl dX8_append_30 ?_
        refine lv_aload_n G.1 G.2.1 dX8_append_33 rfl (lv_at hl 2 rfl) ?_
        refine py_get (C := RX8) (T := TX8) (N := 4) (k := 1) (v := .int (nI (k))) G hw in_X8_append_X8 rfl hh (by decide) (by decide +kernel) rfl dX8_append_34 ?_
        refine lv_iload_n G.1 G.2.1 dX8_append_37 rfl (lv_at hl 0 rfl) ?_
        refine py_iast G hw hb (vp_in_nI (by omega) (by decide)) dX8_append_38 (fun f_112 H_113 locs h_114 x_115 hw => ?_)
        generalize upd g _ _ = g_116 at h_114
        have hMp : ∀ m, fr_M E L f m → fr_M E L f_112 m := fun m h => fr_M_arr (hMp m h) hb h_114 x_115
        have hh := hh.ext x_115 (py_ne_arr hh hb)
        refine lv_aload_n G.1 G.2.1 dX8_append_39 rfl (lv_at hl 2 rfl) ?_
        refine lv_dup G.1 G.2.1 dX8_append_40 rfl ?_
        refine py_get (C := RX8) (T := TX8) (N := 4) (k := 1) (v := .int (nI (k))) G hw in_X8_append_X8 rfl hh (by decide) (by decide +kernel) rfl dX8_append_41 ?_
        refine lv_iconst (v := 1) G.1 G.2.1 dX8_append_44 (by decide) ?_
        refine lv_iadd G.1 G.2.1 dX8_append_45 ?_
        rw [nI_1]
        refine py_put (C := RX8) (T := TX8) (N := 4) (k := 1) (v := .int (nI ((k) + 1))) (fs' := [.ref byt, .int (nI ((k) + 1)), .int at0, .int nn]) (ty0 := tyX8) G hw tyX8_ok nmX8 in_X8_append_X8 rfl hh (by decide) (by decide +kernel) rfl rfl rfl rfl (Nat.le_of_ble_eq_true rfl) rfl dX8_append_46 (fun f_117 H_118 locs h_119 x_120 hw => ?_)
        have hMp : ∀ m, fr_M E L f m → fr_M E L f_117 m := fun m h => fr_M_obj (hMp m h) hh (by decide) x_120
        have h_114 := h_114.ext x_120 (Ne.symm (py_ne_arr hh h_114))
        refine lv_iinc (v := 16) (lv' := [(2, .int 16), (3, .int x_3), (0, .ref h), (1, .int wd)]) G.1 G.2.1 dX8_append_49 hl (k := 1) rfl (by decide) (by decide) rfl (fun ls hl => ?_)
        refine lv_goto (tgt := 3) G.1 G.2.1 dX8_append_52 (by decide) ?_
        refine lv_iload_n G.1 G.2.1 dX8_append_3 rfl (lv_at hl 0 rfl) ?_
        refine lv_if_lt (tgt := 55) G.1 G.2.1 dX8_append_4 (by decide) (fun c_121 => ?_) (fun c_121 => ?_)
        · skip
          exact absurd c_121 (by decide)
        · skip
          refine lv_iload_n G.1 G.2.1 dX8_append_7 rfl (lv_at hl 3 rfl) ?_
          refine lv_iload_n G.1 G.2.1 dX8_append_8 rfl (lv_at hl 0 rfl) ?_
          refine lv_iushr G.1 G.2.1 dX8_append_9 rfl ?_
          refine lv_topi (fun x_122 ex_122 => ?_)
          refine lv_sipush (v := 255) G.1 G.2.1 dX8_append_10 (by decide) ?_
          refine lv_iand G.1 G.2.1 dX8_append_13 ?_
          refine lv_topi (fun x_123 ex_123 => ?_)
          have eb_16 : x_123 = fd_b wd 16 := by rw [ex_123, ex_122]; rfl
          refine lv_istore_n (lv' := [(3, .int x_123), (2, .int 16), (0, .ref h), (1, .int wd)]) G.1 G.2.1 dX8_append_14 rfl hl (by decide) rfl (fun ls hl => ?_)
          refine lv_iload_n G.1 G.2.1 dX8_append_15 rfl (lv_at hl 0 rfl) ?_
          refine lv_if_eq (tgt := 49) G.1 G.2.1 dX8_append_16 (by decide) (fun c_124 => ?_) (fun c_124 => ?_)
          · skip
            refine lv_iinc (v := 8) (lv' := [(2, .int 8), (3, .int x_123), (0, .ref h), (1, .int wd)]) G.1 G.2.1 dX8_append_49 hl (k := 1) rfl (by decide) (by decide) rfl (fun ls hl => ?_)
            refine lv_goto (tgt := 3) G.1 G.2.1 dX8_append_52 (by decide) ?_
            refine lv_iload_n G.1 G.2.1 dX8_append_3 rfl (lv_at hl 0 rfl) ?_
            refine lv_if_lt (tgt := 55) G.1 G.2.1 dX8_append_4 (by decide) (fun c_125 => ?_) (fun c_125 => ?_)
            · skip
              exact absurd c_125 (by decide)
            · skip
              refine lv_iload_n G.1 G.2.1 dX8_append_7 rfl (lv_at hl 3 rfl) ?_
              refine lv_iload_n G.1 G.2.1 dX8_append_8 rfl (lv_at hl 0 rfl) ?_
              refine lv_iushr G.1 G.2.1 dX8_append_9 rfl ?_
              refine lv_topi (fun x_126 ex_126 => ?_)
              refine lv_sipush (v := 255) G.1 G.2.1 dX8_append_10 (by decide) ?_
              refine lv_iand G.1 G.2.1 dX8_append_13 ?_
              refine lv_topi (fun x_127 ex_127 => ?_)
              have eb_8 : x_127 = fd_b wd 8 := by rw [ex_127, ex_126]; rfl
              refine lv_istore_n (lv' := [(3, .int x_127), (2, .int 8), (0, .ref h), (1, .int wd)]) G.1 G.2.1 dX8_append_14 rfl hl (by decide) rfl (fun ls hl => ?_)
              refine lv_iload_n G.1 G.2.1 dX8_append_15 rfl (lv_at hl 0 rfl) ?_
              refine lv_if_eq (tgt := 49) G.1 G.2.1 dX8_append_16 (by decide) (fun c_128 => ?_) (fun c_128 => ?_)
              · skip
                refine lv_iinc (v := 0) (lv' := [(2, .int 0), (3, .int x_127), (0, .ref h), (1, .int wd)]) G.1 G.2.1 dX8_append_49 hl (k := 1) rfl (by decide) (by decide) rfl (fun ls hl => ?_)
                refine lv_goto (tgt := 3) G.1 G.2.1 dX8_append_52 (by decide) ?_
                refine lv_iload_n G.1 G.2.1 dX8_append_3 rfl (lv_at hl 0 rfl) ?_
                refine lv_if_lt (tgt := 55) G.1 G.2.1 dX8_append_4 (by decide) (fun c_129 => ?_) (fun c_129 => ?_)
                · skip
                  exact absurd c_129 (by decide)
                · skip
                  refine lv_iload_n G.1 G.2.1 dX8_append_7 rfl (lv_at hl 3 rfl) ?_
                  refine lv_iload_n G.1 G.2.1 dX8_append_8 rfl (lv_at hl 0 rfl) ?_
                  refine lv_iushr G.1 G.2.1 dX8_append_9 rfl ?_
                  refine lv_topi (fun x_130 ex_130 => ?_)
                  refine lv_sipush (v := 255) G.1 G.2.1 dX8_append_10 (by decide) ?_
                  refine lv_iand G.1 G.2.1 dX8_append_13 ?_
                  refine lv_topi (fun x_131 ex_131 => ?_)
                  have eb_0 : x_131 = fd_b wd 0 := by rw [ex_131, ex_130]; rfl
                  refine lv_istore_n (lv' := [(3, .int x_131), (2, .int 0), (0, .ref h), (1, .int wd)]) G.1 G.2.1 dX8_append_14 rfl hl (by decide) rfl (fun ls hl => ?_)
                  refine lv_iload_n G.1 G.2.1 dX8_append_15 rfl (lv_at hl 0 rfl) ?_
                  refine lv_if_eq (tgt := 49) G.1 G.2.1 dX8_append_16 (by decide) (fun c_132 => ?_) (fun c_132 => ?_)
                  · skip
                    refine lv_iinc (v := (-8)) (lv' := [(2, .int (-8)), (3, .int x_131), (0, .ref h), (1, .int wd)]) G.1 G.2.1 dX8_append_49 hl (k := 1) rfl (by decide) (by decide) rfl (fun ls hl => ?_)
                    refine lv_goto (tgt := 3) G.1 G.2.1 dX8_append_52 (by decide) ?_
                    refine lv_iload_n G.1 G.2.1 dX8_append_3 rfl (lv_at hl 0 rfl) ?_
                    refine lv_if_lt (tgt := 55) G.1 G.2.1 dX8_append_4 (by decide) (fun c_133 => ?_) (fun c_133 => ?_)
                    · skip
                      have ec_24 : fd_c (fd_b wd 24) = 1 := by rw [← eb_24]; exact fd_c1 c_4
                      have ec_16 : fd_c (fd_b wd 16) = 0 := by rw [← eb_16]; exact fd_c0 c_124
                      have ec_8 : fd_c (fd_b wd 8) = 0 := by rw [← eb_8]; exact fd_c0 c_128
                      have ec_0 : fd_c (fd_b wd 0) = 0 := by rw [← eb_0]; exact fd_c0 c_132
                      have en : fd_n wd = 1 := by rw [fd_n, ec_24, ec_16, ec_8, ec_0]
                      have xt : py_ext2 L f L f_117 h byt := fun b hb h1 h2 => by
                        obtain ⟨m0, e0⟩ := x_115 b hb h2
                        obtain ⟨m1, e1⟩ := x_120 b m0 h1
                        exact ⟨m1, e1.trans (e0.trans (rfl))⟩
                      exact py_vret G hr hlk hw ⟨_, by rw [en]; exact h_119, h_114, hMp, xt⟩ dX8_append_55
                    · skip
                      exact absurd c_133 (by decide)
                  · skip
                    refine lv_aload_n G.1 G.2.1 dX8_append_19 rfl (lv_at hl 2 rfl) ?_
                    refine py_get (C := RX8) (T := TX8) (N := 4) (k := 1) (v := .int (nI ((k) + 1))) G hw in_X8_append_X8 rfl h_119 (by decide) (by decide +kernel) rfl dX8_append_20 ?_
                    refine lv_sipush (v := 160) G.1 G.2.1 dX8_append_23 (by decide) ?_
                    refine lv_icmp_ge (tgt := 49) G.1 G.2.1 dX8_append_26 (by decide) (fun c_134 => ?_) (fun c_134 => ?_)
                    · skip
                      exact absurd c_134 (nI_ge (b := 160) (by omega) (by decide))
                    · skip
                      refine lv_aload_n G.1 G.2.1 dX8_append_29 rfl (lv_at hl 2 rfl) ?_
                      refine py_get (C := RX8) (T := TX8) (N := 4) (k := 0) (v := .ref byt) G hw in_X8_append_X8 rfl h_119 (by decide) (by decide +kernel) rfl dX8_append_30 ?_
                      refine lv_aload_n G.1 G.2.1 dX8_append_33 rfl (lv_at hl 2 rfl) ?_
                      refine py_get (C := RX8) (T := TX8) (N := 4) (k := 1) (v := .int (nI ((k) + 1))) G hw in_X8_append_X8 rfl h_119 (by decide) (by decide +kernel) rfl dX8_append_34 ?_
                      refine lv_iload_n G.1 G.2.1 dX8_append_37 rfl (lv_at hl 0 rfl) ?_
                      refine py_iast G hw h_114 (vp_in_nI (by omega) (by decide)) dX8_append_38 (fun f_135 H_136 locs h_137 x_138 hw => ?_)
                      generalize upd g_116 _ _ = g_139 at h_137
                      have hMp : ∀ m, fr_M E L f m → fr_M E L f_135 m := fun m h => fr_M_arr (hMp m h) h_114 h_137 x_138
                      have h_119 := h_119.ext x_138 (py_ne_arr h_119 h_114)
                      refine lv_aload_n G.1 G.2.1 dX8_append_39 rfl (lv_at hl 2 rfl) ?_
                      refine lv_dup G.1 G.2.1 dX8_append_40 rfl ?_
                      refine py_get (C := RX8) (T := TX8) (N := 4) (k := 1) (v := .int (nI ((k) + 1))) G hw in_X8_append_X8 rfl h_119 (by decide) (by decide +kernel) rfl dX8_append_41 ?_
                      refine lv_iconst (v := 1) G.1 G.2.1 dX8_append_44 (by decide) ?_
                      refine lv_iadd G.1 G.2.1 dX8_append_45 ?_
                      rw [nI_1]
                      refine py_put (C := RX8) (T := TX8) (N := 4) (k := 1) (v := .int (nI (((k) + 1) + 1))) (fs' := [.ref byt, .int (nI (((k) + 1) + 1)), .int at0, .int nn]) (ty0 := tyX8) G hw tyX8_ok nmX8 in_X8_append_X8 rfl h_119 (by decide) (by decide +kernel) rfl rfl rfl rfl (Nat.le_of_ble_eq_true rfl) rfl dX8_append_46 (fun f_140 H_141 locs h_142 x_143 hw => ?_)
                      have hMp : ∀ m, fr_M E L f m → fr_M E L f_140 m := fun m h => fr_M_obj (hMp m h) h_119 (by decide) x_143
                      have h_137 := h_137.ext x_143 (Ne.symm (py_ne_arr h_119 h_137))
                      refine lv_iinc (v := (-8)) (lv' := [(2, .int (-8)), (3, .int x_131), (0, .ref h), (1, .int wd)]) G.1 G.2.1 dX8_append_49 hl (k := 1) rfl (by decide) (by decide) rfl (fun ls hl => ?_)
                      refine lv_goto (tgt := 3) G.1 G.2.1 dX8_append_52 (by decide) ?_
                      refine lv_iload_n G.1 G.2.1 dX8_append_3 rfl (lv_at hl 0 rfl) ?_
                      refine lv_if_lt (tgt := 55) G.1 G.2.1 dX8_append_4 (by decide) (fun c_144 => ?_) (fun c_144 => ?_)
                      · skip
                        have ec_24 : fd_c (fd_b wd 24) = 1 := by rw [← eb_24]; exact fd_c1 c_4
                        have ec_16 : fd_c (fd_b wd 16) = 0 := by rw [← eb_16]; exact fd_c0 c_124
                        have ec_8 : fd_c (fd_b wd 8) = 0 := by rw [← eb_8]; exact fd_c0 c_128
                        have ec_0 : fd_c (fd_b wd 0) = 1 := by rw [← eb_0]; exact fd_c1 c_132
                        have en : fd_n wd = 2 := by rw [fd_n, ec_24, ec_16, ec_8, ec_0]
                        have xt : py_ext2 L f L f_140 h byt := fun b hb h1 h2 => by
                          obtain ⟨m0, e0⟩ := x_115 b hb h2
                          obtain ⟨m1, e1⟩ := x_120 b m0 h1
                          obtain ⟨m2, e2⟩ := x_138 b m1 h2
                          obtain ⟨m3, e3⟩ := x_143 b m2 h1
                          exact ⟨m3, e3.trans (e2.trans (e1.trans (e0.trans (rfl))))⟩
                        exact py_vret G hr hlk hw ⟨_, by rw [en]; exact h_142, h_137, hMp, xt⟩ dX8_append_55
                      · skip
                        exact absurd c_144 (by decide)
              · skip
                refine lv_aload_n G.1 G.2.1 dX8_append_19 rfl (lv_at hl 2 rfl) ?_
                refine py_get (C := RX8) (T := TX8) (N := 4) (k := 1) (v := .int (nI ((k) + 1))) G hw in_X8_append_X8 rfl h_119 (by decide) (by decide +kernel) rfl dX8_append_20 ?_
                refine lv_sipush (v := 160) G.1 G.2.1 dX8_append_23 (by decide) ?_
                refine lv_icmp_ge (tgt := 49) G.1 G.2.1 dX8_append_26 (by decide) (fun c_145 => ?_) (fun c_145 => ?_)
                · skip
                  exact absurd c_145 (nI_ge (b := 160) (by omega) (by decide))
                · skip
                  refine lv_aload_n G.1 G.2.1 dX8_append_29 rfl (lv_at hl 2 rfl) ?_
                  refine py_get (C := RX8) (T := TX8) (N := 4) (k := 0) (v := .ref byt) G hw in_X8_append_X8 rfl h_119 (by decide) (by decide +kernel) rfl dX8_append_30 ?_
                  refine lv_aload_n G.1 G.2.1 dX8_append_33 rfl (lv_at hl 2 rfl) ?_
                  refine py_get (C := RX8) (T := TX8) (N := 4) (k := 1) (v := .int (nI ((k) + 1))) G hw in_X8_append_X8 rfl h_119 (by decide) (by decide +kernel) rfl dX8_append_34 ?_
                  refine lv_iload_n G.1 G.2.1 dX8_append_37 rfl (lv_at hl 0 rfl) ?_
                  refine py_iast G hw h_114 (vp_in_nI (by omega) (by decide)) dX8_append_38 (fun f_146 H_147 locs h_148 x_149 hw => ?_)
                  generalize upd g_116 _ _ = g_150 at h_148
                  have hMp : ∀ m, fr_M E L f m → fr_M E L f_146 m := fun m h => fr_M_arr (hMp m h) h_114 h_148 x_149
                  have h_119 := h_119.ext x_149 (py_ne_arr h_119 h_114)
                  refine lv_aload_n G.1 G.2.1 dX8_append_39 rfl (lv_at hl 2 rfl) ?_
                  refine lv_dup G.1 G.2.1 dX8_append_40 rfl ?_
                  refine py_get (C := RX8) (T := TX8) (N := 4) (k := 1) (v := .int (nI ((k) + 1))) G hw in_X8_append_X8 rfl h_119 (by decide) (by decide +kernel) rfl dX8_append_41 ?_
                  refine lv_iconst (v := 1) G.1 G.2.1 dX8_append_44 (by decide) ?_
                  refine lv_iadd G.1 G.2.1 dX8_append_45 ?_
                  rw [nI_1]
                  refine py_put (C := RX8) (T := TX8) (N := 4) (k := 1) (v := .int (nI (((k) + 1) + 1))) (fs' := [.ref byt, .int (nI (((k) + 1) + 1)), .int at0, .int nn]) (ty0 := tyX8) G hw tyX8_ok nmX8 in_X8_append_X8 rfl h_119 (by decide) (by decide +kernel) rfl rfl rfl rfl (Nat.le_of_ble_eq_true rfl) rfl dX8_append_46 (fun f_151 H_152 locs h_153 x_154 hw => ?_)
                  have hMp : ∀ m, fr_M E L f m → fr_M E L f_151 m := fun m h => fr_M_obj (hMp m h) h_119 (by decide) x_154
                  have h_148 := h_148.ext x_154 (Ne.symm (py_ne_arr h_119 h_148))
                  refine lv_iinc (v := 0) (lv' := [(2, .int 0), (3, .int x_127), (0, .ref h), (1, .int wd)]) G.1 G.2.1 dX8_append_49 hl (k := 1) rfl (by decide) (by decide) rfl (fun ls hl => ?_)
                  refine lv_goto (tgt := 3) G.1 G.2.1 dX8_append_52 (by decide) ?_
                  refine lv_iload_n G.1 G.2.1 dX8_append_3 rfl (lv_at hl 0 rfl) ?_
                  refine lv_if_lt (tgt := 55) G.1 G.2.1 dX8_append_4 (by decide) (fun c_155 => ?_) (fun c_155 => ?_)
                  · skip
                    exact absurd c_155 (by decide)
                  · skip
                    refine lv_iload_n G.1 G.2.1 dX8_append_7 rfl (lv_at hl 3 rfl) ?_
                    refine lv_iload_n G.1 G.2.1 dX8_append_8 rfl (lv_at hl 0 rfl) ?_
                    refine lv_iushr G.1 G.2.1 dX8_append_9 rfl ?_
                    refine lv_topi (fun x_156 ex_156 => ?_)
                    refine lv_sipush (v := 255) G.1 G.2.1 dX8_append_10 (by decide) ?_
                    refine lv_iand G.1 G.2.1 dX8_append_13 ?_
                    refine lv_topi (fun x_157 ex_157 => ?_)
                    have eb_0 : x_157 = fd_b wd 0 := by rw [ex_157, ex_156]; rfl
                    refine lv_istore_n (lv' := [(3, .int x_157), (2, .int 0), (0, .ref h), (1, .int wd)]) G.1 G.2.1 dX8_append_14 rfl hl (by decide) rfl (fun ls hl => ?_)
                    refine lv_iload_n G.1 G.2.1 dX8_append_15 rfl (lv_at hl 0 rfl) ?_
                    refine lv_if_eq (tgt := 49) G.1 G.2.1 dX8_append_16 (by decide) (fun c_158 => ?_) (fun c_158 => ?_)
                    · skip
                      refine lv_iinc (v := (-8)) (lv' := [(2, .int (-8)), (3, .int x_157), (0, .ref h), (1, .int wd)]) G.1 G.2.1 dX8_append_49 hl (k := 1) rfl (by decide) (by decide) rfl (fun ls hl => ?_)
                      refine lv_goto (tgt := 3) G.1 G.2.1 dX8_append_52 (by decide) ?_
                      refine lv_iload_n G.1 G.2.1 dX8_append_3 rfl (lv_at hl 0 rfl) ?_
                      refine lv_if_lt (tgt := 55) G.1 G.2.1 dX8_append_4 (by decide) (fun c_159 => ?_) (fun c_159 => ?_)
                      · skip
                        have ec_24 : fd_c (fd_b wd 24) = 1 := by rw [← eb_24]; exact fd_c1 c_4
                        have ec_16 : fd_c (fd_b wd 16) = 0 := by rw [← eb_16]; exact fd_c0 c_124
                        have ec_8 : fd_c (fd_b wd 8) = 1 := by rw [← eb_8]; exact fd_c1 c_128
                        have ec_0 : fd_c (fd_b wd 0) = 0 := by rw [← eb_0]; exact fd_c0 c_158
                        have en : fd_n wd = 2 := by rw [fd_n, ec_24, ec_16, ec_8, ec_0]
                        have xt : py_ext2 L f L f_151 h byt := fun b hb h1 h2 => by
                          obtain ⟨m0, e0⟩ := x_115 b hb h2
                          obtain ⟨m1, e1⟩ := x_120 b m0 h1
                          obtain ⟨m2, e2⟩ := x_149 b m1 h2
                          obtain ⟨m3, e3⟩ := x_154 b m2 h1
                          exact ⟨m3, e3.trans (e2.trans (e1.trans (e0.trans (rfl))))⟩
                        exact py_vret G hr hlk hw ⟨_, by rw [en]; exact h_153, h_148, hMp, xt⟩ dX8_append_55
                      · skip
                        exact absurd c_159 (by decide)
                    · skip
                      refine lv_aload_n G.1 G.2.1 dX8_append_19 rfl (lv_at hl 2 rfl) ?_
                      refine py_get (C := RX8) (T := TX8) (N := 4) (k := 1) (v := .int (nI (((k) + 1) + 1))) G hw in_X8_append_X8 rfl h_153 (by decide) (by decide +kernel) rfl dX8_append_20 ?_
                      refine lv_sipush (v := 160) G.1 G.2.1 dX8_append_23 (by decide) ?_
                      refine lv_icmp_ge (tgt := 49) G.1 G.2.1 dX8_append_26 (by decide) (fun c_160 => ?_) (fun c_160 => ?_)
                      · skip
                        exact absurd c_160 (nI_ge (b := 160) (by omega) (by decide))
                      · skip
                        refine lv_aload_n G.1 G.2.1 dX8_append_29 rfl (lv_at hl 2 rfl) ?_
                        refine py_get (C := RX8) (T := TX8) (N := 4) (k := 0) (v := .ref byt) G hw in_X8_append_X8 rfl h_153 (by decide) (by decide +kernel) rfl dX8_append_30 ?_
                        refine lv_aload_n G.1 G.2.1 dX8_append_33 rfl (lv_at hl 2 rfl) ?_
                        refine py_get (C := RX8) (T := TX8) (N := 4) (k := 1) (v := .int (nI (((k) + 1) + 1))) G hw in_X8_append_X8 rfl h_153 (by decide) (by decide +kernel) rfl dX8_append_34 ?_
                        refine lv_iload_n G.1 G.2.1 dX8_append_37 rfl (lv_at hl 0 rfl) ?_
                        refine py_iast G hw h_148 (vp_in_nI (by omega) (by decide)) dX8_append_38 (fun f_161 H_162 locs h_163 x_164 hw => ?_)
                        generalize upd g_150 _ _ = g_165 at h_163
                        have hMp : ∀ m, fr_M E L f m → fr_M E L f_161 m := fun m h => fr_M_arr (hMp m h) h_148 h_163 x_164
                        have h_153 := h_153.ext x_164 (py_ne_arr h_153 h_148)
                        refine lv_aload_n G.1 G.2.1 dX8_append_39 rfl (lv_at hl 2 rfl) ?_
                        refine lv_dup G.1 G.2.1 dX8_append_40 rfl ?_
                        refine py_get (C := RX8) (T := TX8) (N := 4) (k := 1) (v := .int (nI (((k) + 1) + 1))) G hw in_X8_append_X8 rfl h_153 (by decide) (by decide +kernel) rfl dX8_append_41 ?_
                        refine lv_iconst (v := 1) G.1 G.2.1 dX8_append_44 (by decide) ?_
                        refine lv_iadd G.1 G.2.1 dX8_append_45 ?_
                        rw [nI_1]
                        refine py_put (C := RX8) (T := TX8) (N := 4) (k := 1) (v := .int (nI ((((k) + 1) + 1) + 1))) (fs' := [.ref byt, .int (nI ((((k) + 1) + 1) + 1)), .int at0, .int nn]) (ty0 := tyX8) G hw tyX8_ok nmX8 in_X8_append_X8 rfl h_153 (by decide) (by decide +kernel) rfl rfl rfl rfl (Nat.le_of_ble_eq_true rfl) rfl dX8_append_46 (fun f_166 H_167 locs h_168 x_169 hw => ?_)
                        have hMp : ∀ m, fr_M E L f m → fr_M E L f_166 m := fun m h => fr_M_obj (hMp m h) h_153 (by decide) x_169
                        have h_163 := h_163.ext x_169 (Ne.symm (py_ne_arr h_153 h_163))
                        refine lv_iinc (v := (-8)) (lv' := [(2, .int (-8)), (3, .int x_157), (0, .ref h), (1, .int wd)]) G.1 G.2.1 dX8_append_49 hl (k := 1) rfl (by decide) (by decide) rfl (fun ls hl => ?_)
                        refine lv_goto (tgt := 3) G.1 G.2.1 dX8_append_52 (by decide) ?_
                        refine lv_iload_n G.1 G.2.1 dX8_append_3 rfl (lv_at hl 0 rfl) ?_
                        refine lv_if_lt (tgt := 55) G.1 G.2.1 dX8_append_4 (by decide) (fun c_170 => ?_) (fun c_170 => ?_)
                        · skip
                          have ec_24 : fd_c (fd_b wd 24) = 1 := by rw [← eb_24]; exact fd_c1 c_4
                          have ec_16 : fd_c (fd_b wd 16) = 0 := by rw [← eb_16]; exact fd_c0 c_124
                          have ec_8 : fd_c (fd_b wd 8) = 1 := by rw [← eb_8]; exact fd_c1 c_128
                          have ec_0 : fd_c (fd_b wd 0) = 1 := by rw [← eb_0]; exact fd_c1 c_158
                          have en : fd_n wd = 3 := by rw [fd_n, ec_24, ec_16, ec_8, ec_0]
                          have xt : py_ext2 L f L f_166 h byt := fun b hb h1 h2 => by
                            obtain ⟨m0, e0⟩ := x_115 b hb h2
                            obtain ⟨m1, e1⟩ := x_120 b m0 h1
                            obtain ⟨m2, e2⟩ := x_149 b m1 h2
                            obtain ⟨m3, e3⟩ := x_154 b m2 h1
                            obtain ⟨m4, e4⟩ := x_164 b m3 h2
                            obtain ⟨m5, e5⟩ := x_169 b m4 h1
                            exact ⟨m5, e5.trans (e4.trans (e3.trans (e2.trans (e1.trans (e0.trans (rfl))))))⟩
                          exact py_vret G hr hlk hw ⟨_, by rw [en]; exact h_168, h_163, hMp, xt⟩ dX8_append_55
                        · skip
                          exact absurd c_170 (by decide)
          · skip
            refine lv_aload_n G.1 G.2.1 dX8_append_19 rfl (lv_at hl 2 rfl) ?_
            refine py_get (C := RX8) (T := TX8) (N := 4) (k := 1) (v := .int (nI ((k) + 1))) G hw in_X8_append_X8 rfl h_119 (by decide) (by decide +kernel) rfl dX8_append_20 ?_
            refine lv_sipush (v := 160) G.1 G.2.1 dX8_append_23 (by decide) ?_
            refine lv_icmp_ge (tgt := 49) G.1 G.2.1 dX8_append_26 (by decide) (fun c_171 => ?_) (fun c_171 => ?_)
            · skip
              exact absurd c_171 (nI_ge (b := 160) (by omega) (by decide))
            · skip
              refine lv_aload_n G.1 G.2.1 dX8_append_29 rfl (lv_at hl 2 rfl) ?_
              refine py_get (C := RX8) (T := TX8) (N := 4) (k := 0) (v := .ref byt) G hw in_X8_append_X8 rfl h_119 (by decide) (by decide +kernel) rfl dX8_append_30 ?_
              refine lv_aload_n G.1 G.2.1 dX8_append_33 rfl (lv_at hl 2 rfl) ?_
              refine py_get (C := RX8) (T := TX8) (N := 4) (k := 1) (v := .int (nI ((k) + 1))) G hw in_X8_append_X8 rfl h_119 (by decide) (by decide +kernel) rfl dX8_append_34 ?_
              refine lv_iload_n G.1 G.2.1 dX8_append_37 rfl (lv_at hl 0 rfl) ?_
              refine py_iast G hw h_114 (vp_in_nI (by omega) (by decide)) dX8_append_38 (fun f_172 H_173 locs h_174 x_175 hw => ?_)
              generalize upd g_116 _ _ = g_176 at h_174
              have hMp : ∀ m, fr_M E L f m → fr_M E L f_172 m := fun m h => fr_M_arr (hMp m h) h_114 h_174 x_175
              have h_119 := h_119.ext x_175 (py_ne_arr h_119 h_114)
              refine lv_aload_n G.1 G.2.1 dX8_append_39 rfl (lv_at hl 2 rfl) ?_
              refine lv_dup G.1 G.2.1 dX8_append_40 rfl ?_
              refine py_get (C := RX8) (T := TX8) (N := 4) (k := 1) (v := .int (nI ((k) + 1))) G hw in_X8_append_X8 rfl h_119 (by decide) (by decide +kernel) rfl dX8_append_41 ?_
              refine lv_iconst (v := 1) G.1 G.2.1 dX8_append_44 (by decide) ?_
              refine lv_iadd G.1 G.2.1 dX8_append_45 ?_
              rw [nI_1]
              refine py_put (C := RX8) (T := TX8) (N := 4) (k := 1) (v := .int (nI (((k) + 1) + 1))) (fs' := [.ref byt, .int (nI (((k) + 1) + 1)), .int at0, .int nn]) (ty0 := tyX8) G hw tyX8_ok nmX8 in_X8_append_X8 rfl h_119 (by decide) (by decide +kernel) rfl rfl rfl rfl (Nat.le_of_ble_eq_true rfl) rfl dX8_append_46 (fun f_177 H_178 locs h_179 x_180 hw => ?_)
              have hMp : ∀ m, fr_M E L f m → fr_M E L f_177 m := fun m h => fr_M_obj (hMp m h) h_119 (by decide) x_180
              have h_174 := h_174.ext x_180 (Ne.symm (py_ne_arr h_119 h_174))
              refine lv_iinc (v := 8) (lv' := [(2, .int 8), (3, .int x_123), (0, .ref h), (1, .int wd)]) G.1 G.2.1 dX8_append_49 hl (k := 1) rfl (by decide) (by decide) rfl (fun ls hl => ?_)
              refine lv_goto (tgt := 3) G.1 G.2.1 dX8_append_52 (by decide) ?_
              refine lv_iload_n G.1 G.2.1 dX8_append_3 rfl (lv_at hl 0 rfl) ?_
              refine lv_if_lt (tgt := 55) G.1 G.2.1 dX8_append_4 (by decide) (fun c_181 => ?_) (fun c_181 => ?_)
              · skip
                exact absurd c_181 (by decide)
              · skip
                refine lv_iload_n G.1 G.2.1 dX8_append_7 rfl (lv_at hl 3 rfl) ?_
                refine lv_iload_n G.1 G.2.1 dX8_append_8 rfl (lv_at hl 0 rfl) ?_
                refine lv_iushr G.1 G.2.1 dX8_append_9 rfl ?_
                refine lv_topi (fun x_182 ex_182 => ?_)
                refine lv_sipush (v := 255) G.1 G.2.1 dX8_append_10 (by decide) ?_
                refine lv_iand G.1 G.2.1 dX8_append_13 ?_
                refine lv_topi (fun x_183 ex_183 => ?_)
                have eb_8 : x_183 = fd_b wd 8 := by rw [ex_183, ex_182]; rfl
                refine lv_istore_n (lv' := [(3, .int x_183), (2, .int 8), (0, .ref h), (1, .int wd)]) G.1 G.2.1 dX8_append_14 rfl hl (by decide) rfl (fun ls hl => ?_)
                refine lv_iload_n G.1 G.2.1 dX8_append_15 rfl (lv_at hl 0 rfl) ?_
                refine lv_if_eq (tgt := 49) G.1 G.2.1 dX8_append_16 (by decide) (fun c_184 => ?_) (fun c_184 => ?_)
                · skip
                  refine lv_iinc (v := 0) (lv' := [(2, .int 0), (3, .int x_183), (0, .ref h), (1, .int wd)]) G.1 G.2.1 dX8_append_49 hl (k := 1) rfl (by decide) (by decide) rfl (fun ls hl => ?_)
                  refine lv_goto (tgt := 3) G.1 G.2.1 dX8_append_52 (by decide) ?_
                  refine lv_iload_n G.1 G.2.1 dX8_append_3 rfl (lv_at hl 0 rfl) ?_
                  refine lv_if_lt (tgt := 55) G.1 G.2.1 dX8_append_4 (by decide) (fun c_185 => ?_) (fun c_185 => ?_)
                  · skip
                    exact absurd c_185 (by decide)
                  · skip
                    refine lv_iload_n G.1 G.2.1 dX8_append_7 rfl (lv_at hl 3 rfl) ?_
                    refine lv_iload_n G.1 G.2.1 dX8_append_8 rfl (lv_at hl 0 rfl) ?_
                    refine lv_iushr G.1 G.2.1 dX8_append_9 rfl ?_
                    refine lv_topi (fun x_186 ex_186 => ?_)
                    refine lv_sipush (v := 255) G.1 G.2.1 dX8_append_10 (by decide) ?_
                    refine lv_iand G.1 G.2.1 dX8_append_13 ?_
                    refine lv_topi (fun x_187 ex_187 => ?_)
                    have eb_0 : x_187 = fd_b wd 0 := by rw [ex_187, ex_186]; rfl
                    refine lv_istore_n (lv' := [(3, .int x_187), (2, .int 0), (0, .ref h), (1, .int wd)]) G.1 G.2.1 dX8_append_14 rfl hl (by decide) rfl (fun ls hl => ?_)
                    refine lv_iload_n G.1 G.2.1 dX8_append_15 rfl (lv_at hl 0 rfl) ?_
                    refine lv_if_eq (tgt := 49) G.1 G.2.1 dX8_append_16 (by decide) (fun c_188 => ?_) (fun c_188 => ?_)
                    · skip
                      refine lv_iinc (v := (-8)) (lv' := [(2, .int (-8)), (3, .int x_187), (0, .ref h), (1, .int wd)]) G.1 G.2.1 dX8_append_49 hl (k := 1) rfl (by decide) (by decide) rfl (fun ls hl => ?_)
                      refine lv_goto (tgt := 3) G.1 G.2.1 dX8_append_52 (by decide) ?_
                      refine lv_iload_n G.1 G.2.1 dX8_append_3 rfl (lv_at hl 0 rfl) ?_
                      refine lv_if_lt (tgt := 55) G.1 G.2.1 dX8_append_4 (by decide) (fun c_189 => ?_) (fun c_189 => ?_)
                      · skip
                        have ec_24 : fd_c (fd_b wd 24) = 1 := by rw [← eb_24]; exact fd_c1 c_4
                        have ec_16 : fd_c (fd_b wd 16) = 1 := by rw [← eb_16]; exact fd_c1 c_124
                        have ec_8 : fd_c (fd_b wd 8) = 0 := by rw [← eb_8]; exact fd_c0 c_184
                        have ec_0 : fd_c (fd_b wd 0) = 0 := by rw [← eb_0]; exact fd_c0 c_188
                        have en : fd_n wd = 2 := by rw [fd_n, ec_24, ec_16, ec_8, ec_0]
                        have xt : py_ext2 L f L f_177 h byt := fun b hb h1 h2 => by
                          obtain ⟨m0, e0⟩ := x_115 b hb h2
                          obtain ⟨m1, e1⟩ := x_120 b m0 h1
                          obtain ⟨m2, e2⟩ := x_175 b m1 h2
                          obtain ⟨m3, e3⟩ := x_180 b m2 h1
                          exact ⟨m3, e3.trans (e2.trans (e1.trans (e0.trans (rfl))))⟩
                        exact py_vret G hr hlk hw ⟨_, by rw [en]; exact h_179, h_174, hMp, xt⟩ dX8_append_55
                      · skip
                        exact absurd c_189 (by decide)
                    · skip
                      refine lv_aload_n G.1 G.2.1 dX8_append_19 rfl (lv_at hl 2 rfl) ?_
                      refine py_get (C := RX8) (T := TX8) (N := 4) (k := 1) (v := .int (nI (((k) + 1) + 1))) G hw in_X8_append_X8 rfl h_179 (by decide) (by decide +kernel) rfl dX8_append_20 ?_
                      refine lv_sipush (v := 160) G.1 G.2.1 dX8_append_23 (by decide) ?_
                      refine lv_icmp_ge (tgt := 49) G.1 G.2.1 dX8_append_26 (by decide) (fun c_190 => ?_) (fun c_190 => ?_)
                      · skip
                        exact absurd c_190 (nI_ge (b := 160) (by omega) (by decide))
                      · skip
                        refine lv_aload_n G.1 G.2.1 dX8_append_29 rfl (lv_at hl 2 rfl) ?_
                        refine py_get (C := RX8) (T := TX8) (N := 4) (k := 0) (v := .ref byt) G hw in_X8_append_X8 rfl h_179 (by decide) (by decide +kernel) rfl dX8_append_30 ?_
                        refine lv_aload_n G.1 G.2.1 dX8_append_33 rfl (lv_at hl 2 rfl) ?_
                        refine py_get (C := RX8) (T := TX8) (N := 4) (k := 1) (v := .int (nI (((k) + 1) + 1))) G hw in_X8_append_X8 rfl h_179 (by decide) (by decide +kernel) rfl dX8_append_34 ?_
                        refine lv_iload_n G.1 G.2.1 dX8_append_37 rfl (lv_at hl 0 rfl) ?_
                        refine py_iast G hw h_174 (vp_in_nI (by omega) (by decide)) dX8_append_38 (fun f_191 H_192 locs h_193 x_194 hw => ?_)
                        generalize upd g_176 _ _ = g_195 at h_193
                        have hMp : ∀ m, fr_M E L f m → fr_M E L f_191 m := fun m h => fr_M_arr (hMp m h) h_174 h_193 x_194
                        have h_179 := h_179.ext x_194 (py_ne_arr h_179 h_174)
                        refine lv_aload_n G.1 G.2.1 dX8_append_39 rfl (lv_at hl 2 rfl) ?_
                        refine lv_dup G.1 G.2.1 dX8_append_40 rfl ?_
                        refine py_get (C := RX8) (T := TX8) (N := 4) (k := 1) (v := .int (nI (((k) + 1) + 1))) G hw in_X8_append_X8 rfl h_179 (by decide) (by decide +kernel) rfl dX8_append_41 ?_
                        refine lv_iconst (v := 1) G.1 G.2.1 dX8_append_44 (by decide) ?_
                        refine lv_iadd G.1 G.2.1 dX8_append_45 ?_
                        rw [nI_1]
                        refine py_put (C := RX8) (T := TX8) (N := 4) (k := 1) (v := .int (nI ((((k) + 1) + 1) + 1))) (fs' := [.ref byt, .int (nI ((((k) + 1) + 1) + 1)), .int at0, .int nn]) (ty0 := tyX8) G hw tyX8_ok nmX8 in_X8_append_X8 rfl h_179 (by decide) (by decide +kernel) rfl rfl rfl rfl (Nat.le_of_ble_eq_true rfl) rfl dX8_append_46 (fun f_196 H_197 locs h_198 x_199 hw => ?_)
                        have hMp : ∀ m, fr_M E L f m → fr_M E L f_196 m := fun m h => fr_M_obj (hMp m h) h_179 (by decide) x_199
                        have h_193 := h_193.ext x_199 (Ne.symm (py_ne_arr h_179 h_193))
                        refine lv_iinc (v := (-8)) (lv' := [(2, .int (-8)), (3, .int x_187), (0, .ref h), (1, .int wd)]) G.1 G.2.1 dX8_append_49 hl (k := 1) rfl (by decide) (by decide) rfl (fun ls hl => ?_)
                        refine lv_goto (tgt := 3) G.1 G.2.1 dX8_append_52 (by decide) ?_
                        refine lv_iload_n G.1 G.2.1 dX8_append_3 rfl (lv_at hl 0 rfl) ?_
                        refine lv_if_lt (tgt := 55) G.1 G.2.1 dX8_append_4 (by decide) (fun c_200 => ?_) (fun c_200 => ?_)
                        · skip
                          have ec_24 : fd_c (fd_b wd 24) = 1 := by rw [← eb_24]; exact fd_c1 c_4
                          have ec_16 : fd_c (fd_b wd 16) = 1 := by rw [← eb_16]; exact fd_c1 c_124
                          have ec_8 : fd_c (fd_b wd 8) = 0 := by rw [← eb_8]; exact fd_c0 c_184
                          have ec_0 : fd_c (fd_b wd 0) = 1 := by rw [← eb_0]; exact fd_c1 c_188
                          have en : fd_n wd = 3 := by rw [fd_n, ec_24, ec_16, ec_8, ec_0]
                          have xt : py_ext2 L f L f_196 h byt := fun b hb h1 h2 => by
                            obtain ⟨m0, e0⟩ := x_115 b hb h2
                            obtain ⟨m1, e1⟩ := x_120 b m0 h1
                            obtain ⟨m2, e2⟩ := x_175 b m1 h2
                            obtain ⟨m3, e3⟩ := x_180 b m2 h1
                            obtain ⟨m4, e4⟩ := x_194 b m3 h2
                            obtain ⟨m5, e5⟩ := x_199 b m4 h1
                            exact ⟨m5, e5.trans (e4.trans (e3.trans (e2.trans (e1.trans (e0.trans (rfl))))))⟩
                          exact py_vret G hr hlk hw ⟨_, by rw [en]; exact h_198, h_193, hMp, xt⟩ dX8_append_55
                        · skip
                          exact absurd c_200 (by decide)
                · skip
                  refine lv_aload_n G.1 G.2.1 dX8_append_19 rfl (lv_at hl 2 rfl) ?_
                  refine py_get (C := RX8) (T := TX8) (N := 4) (k := 1) (v := .int (nI (((k) + 1) + 1))) G hw in_X8_append_X8 rfl h_179 (by decide) (by decide +kernel) rfl dX8_append_20 ?_
                  refine lv_sipush (v := 160) G.1 G.2.1 dX8_append_23 (by decide) ?_
                  refine lv_icmp_ge (tgt := 49) G.1 G.2.1 dX8_append_26 (by decide) (fun c_201 => ?_) (fun c_201 => ?_)
                  · skip
                    exact absurd c_201 (nI_ge (b := 160) (by omega) (by decide))
                  · skip
                    refine lv_aload_n G.1 G.2.1 dX8_append_29 rfl (lv_at hl 2 rfl) ?_
                    refine py_get (C := RX8) (T := TX8) (N := 4) (k := 0) (v := .ref byt) G hw in_X8_append_X8 rfl h_179 (by decide) (by decide +kernel) rfl dX8_append_30 ?_
                    refine lv_aload_n G.1 G.2.1 dX8_append_33 rfl (lv_at hl 2 rfl) ?_
                    refine py_get (C := RX8) (T := TX8) (N := 4) (k := 1) (v := .int (nI (((k) + 1) + 1))) G hw in_X8_append_X8 rfl h_179 (by decide) (by decide +kernel) rfl dX8_append_34 ?_
                    refine lv_iload_n G.1 G.2.1 dX8_append_37 rfl (lv_at hl 0 rfl) ?_
                    refine py_iast G hw h_174 (vp_in_nI (by omega) (by decide)) dX8_append_38 (fun f_202 H_203 locs h_204 x_205 hw => ?_)
                    generalize upd g_176 _ _ = g_206 at h_204
                    have hMp : ∀ m, fr_M E L f m → fr_M E L f_202 m := fun m h => fr_M_arr (hMp m h) h_174 h_204 x_205
                    have h_179 := h_179.ext x_205 (py_ne_arr h_179 h_174)
                    refine lv_aload_n G.1 G.2.1 dX8_append_39 rfl (lv_at hl 2 rfl) ?_
                    refine lv_dup G.1 G.2.1 dX8_append_40 rfl ?_
                    refine py_get (C := RX8) (T := TX8) (N := 4) (k := 1) (v := .int (nI (((k) + 1) + 1))) G hw in_X8_append_X8 rfl h_179 (by decide) (by decide +kernel) rfl dX8_append_41 ?_
                    refine lv_iconst (v := 1) G.1 G.2.1 dX8_append_44 (by decide) ?_
                    refine lv_iadd G.1 G.2.1 dX8_append_45 ?_
                    rw [nI_1]
                    refine py_put (C := RX8) (T := TX8) (N := 4) (k := 1) (v := .int (nI ((((k) + 1) + 1) + 1))) (fs' := [.ref byt, .int (nI ((((k) + 1) + 1) + 1)), .int at0, .int nn]) (ty0 := tyX8) G hw tyX8_ok nmX8 in_X8_append_X8 rfl h_179 (by decide) (by decide +kernel) rfl rfl rfl rfl (Nat.le_of_ble_eq_true rfl) rfl dX8_append_46 (fun f_207 H_208 locs h_209 x_210 hw => ?_)
                    have hMp : ∀ m, fr_M E L f m → fr_M E L f_207 m := fun m h => fr_M_obj (hMp m h) h_179 (by decide) x_210
                    have h_204 := h_204.ext x_210 (Ne.symm (py_ne_arr h_179 h_204))
                    refine lv_iinc (v := 0) (lv' := [(2, .int 0), (3, .int x_183), (0, .ref h), (1, .int wd)]) G.1 G.2.1 dX8_append_49 hl (k := 1) rfl (by decide) (by decide) rfl (fun ls hl => ?_)
                    refine lv_goto (tgt := 3) G.1 G.2.1 dX8_append_52 (by decide) ?_
                    refine lv_iload_n G.1 G.2.1 dX8_append_3 rfl (lv_at hl 0 rfl) ?_
                    refine lv_if_lt (tgt := 55) G.1 G.2.1 dX8_append_4 (by decide) (fun c_211 => ?_) (fun c_211 => ?_)
                    · skip
                      exact absurd c_211 (by decide)
                    · skip
                      refine lv_iload_n G.1 G.2.1 dX8_append_7 rfl (lv_at hl 3 rfl) ?_
                      refine lv_iload_n G.1 G.2.1 dX8_append_8 rfl (lv_at hl 0 rfl) ?_
                      refine lv_iushr G.1 G.2.1 dX8_append_9 rfl ?_
                      refine lv_topi (fun x_212 ex_212 => ?_)
                      refine lv_sipush (v := 255) G.1 G.2.1 dX8_append_10 (by decide) ?_
                      refine lv_iand G.1 G.2.1 dX8_append_13 ?_
                      refine lv_topi (fun x_213 ex_213 => ?_)
                      have eb_0 : x_213 = fd_b wd 0 := by rw [ex_213, ex_212]; rfl
                      refine lv_istore_n (lv' := [(3, .int x_213), (2, .int 0), (0, .ref h), (1, .int wd)]) G.1 G.2.1 dX8_append_14 rfl hl (by decide) rfl (fun ls hl => ?_)
                      refine lv_iload_n G.1 G.2.1 dX8_append_15 rfl (lv_at hl 0 rfl) ?_
                      refine lv_if_eq (tgt := 49) G.1 G.2.1 dX8_append_16 (by decide) (fun c_214 => ?_) (fun c_214 => ?_)
                      · skip
                        refine lv_iinc (v := (-8)) (lv' := [(2, .int (-8)), (3, .int x_213), (0, .ref h), (1, .int wd)]) G.1 G.2.1 dX8_append_49 hl (k := 1) rfl (by decide) (by decide) rfl (fun ls hl => ?_)
                        refine lv_goto (tgt := 3) G.1 G.2.1 dX8_append_52 (by decide) ?_
                        refine lv_iload_n G.1 G.2.1 dX8_append_3 rfl (lv_at hl 0 rfl) ?_
                        refine lv_if_lt (tgt := 55) G.1 G.2.1 dX8_append_4 (by decide) (fun c_215 => ?_) (fun c_215 => ?_)
                        · skip
                          have ec_24 : fd_c (fd_b wd 24) = 1 := by rw [← eb_24]; exact fd_c1 c_4
                          have ec_16 : fd_c (fd_b wd 16) = 1 := by rw [← eb_16]; exact fd_c1 c_124
                          have ec_8 : fd_c (fd_b wd 8) = 1 := by rw [← eb_8]; exact fd_c1 c_184
                          have ec_0 : fd_c (fd_b wd 0) = 0 := by rw [← eb_0]; exact fd_c0 c_214
                          have en : fd_n wd = 3 := by rw [fd_n, ec_24, ec_16, ec_8, ec_0]
                          have xt : py_ext2 L f L f_207 h byt := fun b hb h1 h2 => by
                            obtain ⟨m0, e0⟩ := x_115 b hb h2
                            obtain ⟨m1, e1⟩ := x_120 b m0 h1
                            obtain ⟨m2, e2⟩ := x_175 b m1 h2
                            obtain ⟨m3, e3⟩ := x_180 b m2 h1
                            obtain ⟨m4, e4⟩ := x_205 b m3 h2
                            obtain ⟨m5, e5⟩ := x_210 b m4 h1
                            exact ⟨m5, e5.trans (e4.trans (e3.trans (e2.trans (e1.trans (e0.trans (rfl))))))⟩
                          exact py_vret G hr hlk hw ⟨_, by rw [en]; exact h_209, h_204, hMp, xt⟩ dX8_append_55
                        · skip
                          exact absurd c_215 (by decide)
                      · skip
                        refine lv_aload_n G.1 G.2.1 dX8_append_19 rfl (lv_at hl 2 rfl) ?_
                        refine py_get (C := RX8) (T := TX8) (N := 4) (k := 1) (v := .int (nI ((((k) + 1) + 1) + 1))) G hw in_X8_append_X8 rfl h_209 (by decide) (by decide +kernel) rfl dX8_append_20 ?_
                        refine lv_sipush (v := 160) G.1 G.2.1 dX8_append_23 (by decide) ?_
                        refine lv_icmp_ge (tgt := 49) G.1 G.2.1 dX8_append_26 (by decide) (fun c_216 => ?_) (fun c_216 => ?_)
                        · skip
                          exact absurd c_216 (nI_ge (b := 160) (by omega) (by decide))
                        · skip
                          refine lv_aload_n G.1 G.2.1 dX8_append_29 rfl (lv_at hl 2 rfl) ?_
                          refine py_get (C := RX8) (T := TX8) (N := 4) (k := 0) (v := .ref byt) G hw in_X8_append_X8 rfl h_209 (by decide) (by decide +kernel) rfl dX8_append_30 ?_
                          refine lv_aload_n G.1 G.2.1 dX8_append_33 rfl (lv_at hl 2 rfl) ?_
                          refine py_get (C := RX8) (T := TX8) (N := 4) (k := 1) (v := .int (nI ((((k) + 1) + 1) + 1))) G hw in_X8_append_X8 rfl h_209 (by decide) (by decide +kernel) rfl dX8_append_34 ?_
                          refine lv_iload_n G.1 G.2.1 dX8_append_37 rfl (lv_at hl 0 rfl) ?_
                          refine py_iast G hw h_204 (vp_in_nI (by omega) (by decide)) dX8_append_38 (fun f_217 H_218 locs h_219 x_220 hw => ?_)
                          generalize upd g_206 _ _ = g_221 at h_219
                          have hMp : ∀ m, fr_M E L f m → fr_M E L f_217 m := fun m h => fr_M_arr (hMp m h) h_204 h_219 x_220
                          have h_209 := h_209.ext x_220 (py_ne_arr h_209 h_204)
                          refine lv_aload_n G.1 G.2.1 dX8_append_39 rfl (lv_at hl 2 rfl) ?_
                          refine lv_dup G.1 G.2.1 dX8_append_40 rfl ?_
                          refine py_get (C := RX8) (T := TX8) (N := 4) (k := 1) (v := .int (nI ((((k) + 1) + 1) + 1))) G hw in_X8_append_X8 rfl h_209 (by decide) (by decide +kernel) rfl dX8_append_41 ?_
                          refine lv_iconst (v := 1) G.1 G.2.1 dX8_append_44 (by decide) ?_
                          refine lv_iadd G.1 G.2.1 dX8_append_45 ?_
                          rw [nI_1]
                          refine py_put (C := RX8) (T := TX8) (N := 4) (k := 1) (v := .int (nI (((((k) + 1) + 1) + 1) + 1))) (fs' := [.ref byt, .int (nI (((((k) + 1) + 1) + 1) + 1)), .int at0, .int nn]) (ty0 := tyX8) G hw tyX8_ok nmX8 in_X8_append_X8 rfl h_209 (by decide) (by decide +kernel) rfl rfl rfl rfl (Nat.le_of_ble_eq_true rfl) rfl dX8_append_46 (fun f_222 H_223 locs h_224 x_225 hw => ?_)
                          have hMp : ∀ m, fr_M E L f m → fr_M E L f_222 m := fun m h => fr_M_obj (hMp m h) h_209 (by decide) x_225
                          have h_219 := h_219.ext x_225 (Ne.symm (py_ne_arr h_209 h_219))
                          refine lv_iinc (v := (-8)) (lv' := [(2, .int (-8)), (3, .int x_213), (0, .ref h), (1, .int wd)]) G.1 G.2.1 dX8_append_49 hl (k := 1) rfl (by decide) (by decide) rfl (fun ls hl => ?_)
                          refine lv_goto (tgt := 3) G.1 G.2.1 dX8_append_52 (by decide) ?_
                          refine lv_iload_n G.1 G.2.1 dX8_append_3 rfl (lv_at hl 0 rfl) ?_
                          refine lv_if_lt (tgt := 55) G.1 G.2.1 dX8_append_4 (by decide) (fun c_226 => ?_) (fun c_226 => ?_)
                          · skip
                            have ec_24 : fd_c (fd_b wd 24) = 1 := by rw [← eb_24]; exact fd_c1 c_4
                            have ec_16 : fd_c (fd_b wd 16) = 1 := by rw [← eb_16]; exact fd_c1 c_124
                            have ec_8 : fd_c (fd_b wd 8) = 1 := by rw [← eb_8]; exact fd_c1 c_184
                            have ec_0 : fd_c (fd_b wd 0) = 1 := by rw [← eb_0]; exact fd_c1 c_214
                            have en : fd_n wd = 4 := by rw [fd_n, ec_24, ec_16, ec_8, ec_0]
                            have xt : py_ext2 L f L f_222 h byt := fun b hb h1 h2 => by
                              obtain ⟨m0, e0⟩ := x_115 b hb h2
                              obtain ⟨m1, e1⟩ := x_120 b m0 h1
                              obtain ⟨m2, e2⟩ := x_175 b m1 h2
                              obtain ⟨m3, e3⟩ := x_180 b m2 h1
                              obtain ⟨m4, e4⟩ := x_205 b m3 h2
                              obtain ⟨m5, e5⟩ := x_210 b m4 h1
                              obtain ⟨m6, e6⟩ := x_220 b m5 h2
                              obtain ⟨m7, e7⟩ := x_225 b m6 h1
                              exact ⟨m7, e7.trans (e6.trans (e5.trans (e4.trans (e3.trans (e2.trans (e1.trans (e0.trans (rfl))))))))⟩
                            exact py_vret G hr hlk hw ⟨_, by rw [en]; exact h_224, h_219, hMp, xt⟩ dX8_append_55
                          · skip
                            exact absurd c_226 (by decide)

def w_X11_feed : List Cond := .code yX11_feed cX11_feed 7 (some .int) :: ([Cond.methodLink RX11 105 yX8_bytesOf, Cond.static yX8_bytesOf, Cond.initialized RX8, Cond.fieldLink RX11 10 "HeadYear" "tape" "LHeadYear$Tape;", Cond.fieldLink RX11 109 "HeadYear$Tape" "length" "I", Cond.methodLink RX11 112 yX8_append, Cond.instanceMethod yX8_append, Cond.selects RX8 yX8_append yX8_append] ++ (u_ws RX11 TX11 16 ++ (u_ws RX8 TX8 4 ++ (w_X8_bytesOf ++ (w_X8_append ++ ([]))))))
theorem in_X11_feed_X11 : ∀ w ∈ u_ws RX11 TX11 16, w ∈ w_X11_feed := fun _ h => List.mem_cons_of_mem _ (List.mem_append_right _ (List.mem_append_left _ h))
theorem in_X11_feed_X8 : ∀ w ∈ u_ws RX8 TX8 4, w ∈ w_X11_feed := fun _ h => List.mem_cons_of_mem _ (List.mem_append_right _ (List.mem_append_right _ (List.mem_append_left _ h)))
theorem gg_X11_feed_X8_bytesOf : GoodIn w_X11_feed w_X8_bytesOf := goodIn_sub (fun _ h => List.mem_cons_of_mem _ (List.mem_append_right _ (List.mem_append_right _ (List.mem_append_right _ (List.mem_append_left _ h))))) (by decide +kernel)
theorem gg_X11_feed_X8_append : GoodIn w_X11_feed w_X8_append := goodIn_sub (fun _ h => List.mem_cons_of_mem _ (List.mem_append_right _ (List.mem_append_right _ (List.mem_append_right _ (List.mem_append_right _ (List.mem_append_left _ h)))))) (by decide +kernel)
theorem g_X11_feed_X8_append_112 : GoodIn w_X11_feed (wsV RX11 112 RX8 yX8_append w_X8_append) := goodIn_app (goodIn_of _ (by decide +kernel)) gg_X11_feed_X8_append
theorem g_X11_feed_X8_bytesOf_105 : GoodIn w_X11_feed (va_wsS RX11 105 yX8_bytesOf w_X8_bytesOf) := goodIn_app (goodIn_of _ (by decide +kernel)) gg_X11_feed_X8_bytesOf
set_option maxHeartbeats 4000000 in
set_option maxRecDepth 100000 in
theorem c_X11_feed (l : Launch) (E : py_E) (L : List Nat) (f : py_F) (sz : Nat) (h : Nat) (a : Int32) (b : Int32) (q : Int32) (d : Int32) (v : Int32) (hF : fr_H E L f h) : Met l yX11_feed w_X11_feed ({ frames := 1, cells := 0, slots := 0, locals := 23 }) (py_Pc E [.ref h, .int a, .int b, .int q, .int d, .int v] L f sz) (py_Qi E L f sz (fun r L1 f1 => r = nI (fd_n a + fd_n b + fd_n q + fd_n d + fd_n v) ∧ ∀ m, fr_M E L f m → fr_M E L1 f1 m)) 0 0 (va_A (va_pl L f) sz) := by
  refine Met.ofW (cc := cX11_feed) (maxL := 7) (ret := (some .int)) (by decide) rfl ?_
  intro p e s m args below meth c s₁ B hml hv
  obtain ⟨rfl, rfl, hw⟩ := py_start hv
  have G : CallFix p m c cX11_feed 7 s _ w_X11_feed RX11 := ⟨B.exec, B.bytes, hml, findClass_of_methodNamed B.named, atoms_spec (ws := w_X11_feed) B.pre⟩
  have hr := B.returns
  have hlk := B.notSynchronized
  have hl := lv_entry ([.ref h, .int a, .int b, .int q, .int d, .int v]) (n := 7) (Nat.le_of_ble_eq_true rfl)
  rw [lg_entry_eq]
  generalize (lg_sl ([.ref h, .int a, .int b, .int q, .int d, .int v]) ++ List.replicate (7 - (lg_sl ([.ref h, .int a, .int b, .int q, .int d, .int v])).length) Slot.unset).toArray = ls at hl ⊢
  have hl : lv_has ls 7 [(0, .ref h), (1, .int a), (2, .int b), (3, .int q), (4, .int d), (5, .int v)] := hl
  obtain ⟨tape, byt, vr, itm, dr, lr, dl, lws, nl, fo, va, tr, im, di, bu, se, mo, od, g, xd, xl, xf, xv, xi, xu, xs, hh, htape, hbyt, hvr, hdr, hxd, hlr, hdl, hxl, hfo, hxf, hf9, hf11, hva, hxv, hv8, hv9, hdi, hxi, hi2, hbu, hxu, hu3, hse, hxs⟩ := id hF
  have hMp : ∀ m, fr_M E L f m → fr_M E L f m := fun _ h => h
  have htape : py_at L f tape (.inr (8, [.ref byt, .int (nI 0), .int 0, .int 0])) := htape
  refine lv_iload_n G.1 G.2.1 dX11_feed_0 rfl (lv_at hl 1 rfl) ?_
  refine py_calli hw (va_runS (As := [.int a]) (rest := []) G (c_X8_bytesOf l E L f s.heap.size a) (va_cwS 1 G.2.2.2.2 g_X11_feed_X8_bytesOf_105 rfl rfl rfl (by decide +kernel) ⟨(Nat.le_of_ble_eq_true rfl), (Nat.le_of_ble_eq_true rfl)⟩) (py_preS hw) rfl rfl hl.1 rfl (lv_room (Nat.le_of_ble_eq_true rfl)) dX11_feed_1 ⟨(Nat.le_of_ble_eq_true rfl), (Nat.le_of_ble_eq_true rfl)⟩) (fun r_5 L_1 f_2 H_3 locs hp_4 hw => ?_)
  obtain ⟨rfl, rfl, rfl⟩ := hp_4
  refine lv_iload_n G.1 G.2.1 dX11_feed_4 rfl (lv_at hl 2 rfl) ?_
  refine py_calli hw (va_runS (As := [.int b]) (rest := [.int (nI (fd_n a))]) G (c_X8_bytesOf l E L f H_3.size b) (va_cwS 1 G.2.2.2.2 g_X11_feed_X8_bytesOf_105 rfl rfl rfl (by decide +kernel) ⟨(Nat.le_of_ble_eq_true rfl), (Nat.le_of_ble_eq_true rfl)⟩) (py_preS hw) rfl rfl hl.1 rfl (lv_room (Nat.le_of_ble_eq_true rfl)) dX11_feed_5 ⟨(Nat.le_of_ble_eq_true rfl), (Nat.le_of_ble_eq_true rfl)⟩) (fun r_10 L_6 f_7 H_8 locs hp_9 hw => ?_)
  obtain ⟨rfl, rfl, rfl⟩ := hp_9
  refine lv_iadd G.1 G.2.1 dX11_feed_8 ?_
  rw [nI_add]
  refine lv_iload_n G.1 G.2.1 dX11_feed_9 rfl (lv_at hl 3 rfl) ?_
  refine py_calli hw (va_runS (As := [.int q]) (rest := [.int (nI ((fd_n a) + (fd_n b)))]) G (c_X8_bytesOf l E L f H_8.size q) (va_cwS 1 G.2.2.2.2 g_X11_feed_X8_bytesOf_105 rfl rfl rfl (by decide +kernel) ⟨(Nat.le_of_ble_eq_true rfl), (Nat.le_of_ble_eq_true rfl)⟩) (py_preS hw) rfl rfl hl.1 rfl (lv_room (Nat.le_of_ble_eq_true rfl)) dX11_feed_10 ⟨(Nat.le_of_ble_eq_true rfl), (Nat.le_of_ble_eq_true rfl)⟩) (fun r_15 L_11 f_12 H_13 locs hp_14 hw => ?_)
  obtain ⟨rfl, rfl, rfl⟩ := hp_14
  refine lv_iadd G.1 G.2.1 dX11_feed_13 ?_
  rw [nI_add]
  refine lv_iload G.1 G.2.1 dX11_feed_14 (lv_at hl 4 rfl) ?_
  refine py_calli hw (va_runS (As := [.int d]) (rest := [.int (nI (((fd_n a) + (fd_n b)) + (fd_n q)))]) G (c_X8_bytesOf l E L f H_13.size d) (va_cwS 1 G.2.2.2.2 g_X11_feed_X8_bytesOf_105 rfl rfl rfl (by decide +kernel) ⟨(Nat.le_of_ble_eq_true rfl), (Nat.le_of_ble_eq_true rfl)⟩) (py_preS hw) rfl rfl hl.1 rfl (lv_room (Nat.le_of_ble_eq_true rfl)) dX11_feed_16 ⟨(Nat.le_of_ble_eq_true rfl), (Nat.le_of_ble_eq_true rfl)⟩) (fun r_20 L_16 f_17 H_18 locs hp_19 hw => ?_)
  obtain ⟨rfl, rfl, rfl⟩ := hp_19
  refine lv_iadd G.1 G.2.1 dX11_feed_19 ?_
  rw [nI_add]
  refine lv_iload G.1 G.2.1 dX11_feed_20 (lv_at hl 5 rfl) ?_
  refine py_calli hw (va_runS (As := [.int v]) (rest := [.int (nI ((((fd_n a) + (fd_n b)) + (fd_n q)) + (fd_n d)))]) G (c_X8_bytesOf l E L f H_18.size v) (va_cwS 1 G.2.2.2.2 g_X11_feed_X8_bytesOf_105 rfl rfl rfl (by decide +kernel) ⟨(Nat.le_of_ble_eq_true rfl), (Nat.le_of_ble_eq_true rfl)⟩) (py_preS hw) rfl rfl hl.1 rfl (lv_room (Nat.le_of_ble_eq_true rfl)) dX11_feed_22 ⟨(Nat.le_of_ble_eq_true rfl), (Nat.le_of_ble_eq_true rfl)⟩) (fun r_25 L_21 f_22 H_23 locs hp_24 hw => ?_)
  obtain ⟨rfl, rfl, rfl⟩ := hp_24
  refine lv_iadd G.1 G.2.1 dX11_feed_25 ?_
  rw [nI_add]
  refine lv_istore (lv' := [(6, .int (nI (((((fd_n a) + (fd_n b)) + (fd_n q)) + (fd_n d)) + (fd_n v)))), (0, .ref h), (1, .int a), (2, .int b), (3, .int q), (4, .int d), (5, .int v)]) G.1 G.2.1 dX11_feed_26 hl (by decide) rfl (fun ls hl => ?_)
  refine lv_aload_n G.1 G.2.1 dX11_feed_28 rfl (lv_at hl 1 rfl) ?_
  refine py_get (C := RX11) (T := TX11) (N := 16) (k := 0) (v := .ref tape) G hw in_X11_feed_X11 rfl hh (by decide) (by decide +kernel) rfl dX11_feed_29 ?_
  refine py_get (C := RX8) (T := TX8) (N := 4) (k := 1) (v := .int (nI 0)) G hw in_X11_feed_X8 rfl htape (by decide) (by decide +kernel) rfl dX11_feed_32 ?_
  refine lv_iload G.1 G.2.1 dX11_feed_35 (lv_at hl 0 rfl) ?_
  refine lv_iadd G.1 G.2.1 dX11_feed_37 ?_
  rw [nI_add]
  refine lv_sipush (v := 160) G.1 G.2.1 dX11_feed_38 (by decide) ?_
  refine lv_icmp_le (tgt := 46) G.1 G.2.1 dX11_feed_41 (by decide) (fun c_26 => ?_) (fun c_26 => ?_)
  · skip
    refine lv_aload_n G.1 G.2.1 dX11_feed_46 rfl (lv_at hl 1 rfl) ?_
    refine py_get (C := RX11) (T := TX11) (N := 16) (k := 0) (v := .ref tape) G hw in_X11_feed_X11 rfl hh (by decide) (by decide +kernel) rfl dX11_feed_47 ?_
    refine lv_iload_n G.1 G.2.1 dX11_feed_50 rfl (lv_at hl 2 rfl) ?_
    refine py_callv hw (va_runV (As := [.int a]) (rest := []) G (c_X8_append l E L f H_23.size tape a byt 0 0 0 g htape hbyt (by have z1 := fd_nl a; have z2 := fd_nl b; have z3 := fd_nl q; have z4 := fd_nl d; have z5 := fd_nl v; omega)) (cwV 1 G.2.2.2.2 g_X11_feed_X8_append_112 rfl rfl rfl (by decide +kernel) ⟨(Nat.le_of_ble_eq_true rfl), (Nat.le_of_ble_eq_true rfl)⟩) (py_preV hw (C := RX8) (T := TX8) (N := 4) rfl htape) rfl rfl hl.1 rfl (lv_room (Nat.le_of_ble_eq_true rfl)) dX11_feed_51 ⟨(Nat.le_of_ble_eq_true rfl), (Nat.le_of_ble_eq_true rfl)⟩) (fun L_27 f_28 H_29 locs hp_30 hw => ?_)
    obtain ⟨g_32, h_33, h_34, hm_35, x_36⟩ := hp_30
    have hMp : ∀ m, fr_M E L f m → fr_M E L_27 f_28 m := fun m h => hm_35 m (hMp m h)
    have hh := ext2_at hh x_36 (py_ne_kind hh htape (by decide)) (py_ne_arr hh hbyt)
    refine lv_aload_n G.1 G.2.1 dX11_feed_54 rfl (lv_at hl 1 rfl) ?_
    refine py_get (C := RX11) (T := TX11) (N := 16) (k := 0) (v := .ref tape) G hw in_X11_feed_X11 rfl hh (by decide) (by decide +kernel) rfl dX11_feed_55 ?_
    refine lv_iload_n G.1 G.2.1 dX11_feed_58 rfl (lv_at hl 3 rfl) ?_
    refine py_callv hw (va_runV (As := [.int b]) (rest := []) G (c_X8_append l E L_27 f_28 H_29.size tape b byt (0 + fd_n a) 0 0 g_32 h_33 h_34 (by have z1 := fd_nl a; have z2 := fd_nl b; have z3 := fd_nl q; have z4 := fd_nl d; have z5 := fd_nl v; omega)) (cwV 1 G.2.2.2.2 g_X11_feed_X8_append_112 rfl rfl rfl (by decide +kernel) ⟨(Nat.le_of_ble_eq_true rfl), (Nat.le_of_ble_eq_true rfl)⟩) (py_preV hw (C := RX8) (T := TX8) (N := 4) rfl h_33) rfl rfl hl.1 rfl (lv_room (Nat.le_of_ble_eq_true rfl)) dX11_feed_59 ⟨(Nat.le_of_ble_eq_true rfl), (Nat.le_of_ble_eq_true rfl)⟩) (fun L_37 f_38 H_39 locs hp_40 hw => ?_)
    obtain ⟨g_42, h_43, h_44, hm_45, x_46⟩ := hp_40
    have hMp : ∀ m, fr_M E L f m → fr_M E L_37 f_38 m := fun m h => hm_45 m (hMp m h)
    have hh := ext2_at hh x_46 (py_ne_kind hh h_33 (by decide)) (py_ne_arr hh h_34)
    refine lv_aload_n G.1 G.2.1 dX11_feed_62 rfl (lv_at hl 1 rfl) ?_
    refine py_get (C := RX11) (T := TX11) (N := 16) (k := 0) (v := .ref tape) G hw in_X11_feed_X11 rfl hh (by decide) (by decide +kernel) rfl dX11_feed_63 ?_
    refine lv_iload_n G.1 G.2.1 dX11_feed_66 rfl (lv_at hl 4 rfl) ?_
    refine py_callv hw (va_runV (As := [.int q]) (rest := []) G (c_X8_append l E L_37 f_38 H_39.size tape q byt ((0 + fd_n a) + fd_n b) 0 0 g_42 h_43 h_44 (by have z1 := fd_nl a; have z2 := fd_nl b; have z3 := fd_nl q; have z4 := fd_nl d; have z5 := fd_nl v; omega)) (cwV 1 G.2.2.2.2 g_X11_feed_X8_append_112 rfl rfl rfl (by decide +kernel) ⟨(Nat.le_of_ble_eq_true rfl), (Nat.le_of_ble_eq_true rfl)⟩) (py_preV hw (C := RX8) (T := TX8) (N := 4) rfl h_43) rfl rfl hl.1 rfl (lv_room (Nat.le_of_ble_eq_true rfl)) dX11_feed_67 ⟨(Nat.le_of_ble_eq_true rfl), (Nat.le_of_ble_eq_true rfl)⟩) (fun L_47 f_48 H_49 locs hp_50 hw => ?_)
    obtain ⟨g_52, h_53, h_54, hm_55, x_56⟩ := hp_50
    have hMp : ∀ m, fr_M E L f m → fr_M E L_47 f_48 m := fun m h => hm_55 m (hMp m h)
    have hh := ext2_at hh x_56 (py_ne_kind hh h_43 (by decide)) (py_ne_arr hh h_44)
    refine lv_aload_n G.1 G.2.1 dX11_feed_70 rfl (lv_at hl 1 rfl) ?_
    refine py_get (C := RX11) (T := TX11) (N := 16) (k := 0) (v := .ref tape) G hw in_X11_feed_X11 rfl hh (by decide) (by decide +kernel) rfl dX11_feed_71 ?_
    refine lv_iload G.1 G.2.1 dX11_feed_74 (lv_at hl 5 rfl) ?_
    refine py_callv hw (va_runV (As := [.int d]) (rest := []) G (c_X8_append l E L_47 f_48 H_49.size tape d byt (((0 + fd_n a) + fd_n b) + fd_n q) 0 0 g_52 h_53 h_54 (by have z1 := fd_nl a; have z2 := fd_nl b; have z3 := fd_nl q; have z4 := fd_nl d; have z5 := fd_nl v; omega)) (cwV 1 G.2.2.2.2 g_X11_feed_X8_append_112 rfl rfl rfl (by decide +kernel) ⟨(Nat.le_of_ble_eq_true rfl), (Nat.le_of_ble_eq_true rfl)⟩) (py_preV hw (C := RX8) (T := TX8) (N := 4) rfl h_53) rfl rfl hl.1 rfl (lv_room (Nat.le_of_ble_eq_true rfl)) dX11_feed_76 ⟨(Nat.le_of_ble_eq_true rfl), (Nat.le_of_ble_eq_true rfl)⟩) (fun L_57 f_58 H_59 locs hp_60 hw => ?_)
    obtain ⟨g_62, h_63, h_64, hm_65, x_66⟩ := hp_60
    have hMp : ∀ m, fr_M E L f m → fr_M E L_57 f_58 m := fun m h => hm_65 m (hMp m h)
    have hh := ext2_at hh x_66 (py_ne_kind hh h_53 (by decide)) (py_ne_arr hh h_54)
    refine lv_aload_n G.1 G.2.1 dX11_feed_79 rfl (lv_at hl 1 rfl) ?_
    refine py_get (C := RX11) (T := TX11) (N := 16) (k := 0) (v := .ref tape) G hw in_X11_feed_X11 rfl hh (by decide) (by decide +kernel) rfl dX11_feed_80 ?_
    refine lv_iload G.1 G.2.1 dX11_feed_83 (lv_at hl 6 rfl) ?_
    refine py_callv hw (va_runV (As := [.int v]) (rest := []) G (c_X8_append l E L_57 f_58 H_59.size tape v byt ((((0 + fd_n a) + fd_n b) + fd_n q) + fd_n d) 0 0 g_62 h_63 h_64 (by have z1 := fd_nl a; have z2 := fd_nl b; have z3 := fd_nl q; have z4 := fd_nl d; have z5 := fd_nl v; omega)) (cwV 1 G.2.2.2.2 g_X11_feed_X8_append_112 rfl rfl rfl (by decide +kernel) ⟨(Nat.le_of_ble_eq_true rfl), (Nat.le_of_ble_eq_true rfl)⟩) (py_preV hw (C := RX8) (T := TX8) (N := 4) rfl h_63) rfl rfl hl.1 rfl (lv_room (Nat.le_of_ble_eq_true rfl)) dX11_feed_85 ⟨(Nat.le_of_ble_eq_true rfl), (Nat.le_of_ble_eq_true rfl)⟩) (fun L_67 f_68 H_69 locs hp_70 hw => ?_)
    obtain ⟨g_72, h_73, h_74, hm_75, x_76⟩ := hp_70
    have hMp : ∀ m, fr_M E L f m → fr_M E L_67 f_68 m := fun m h => hm_75 m (hMp m h)
    have hh := ext2_at hh x_76 (py_ne_kind hh h_63 (by decide)) (py_ne_arr hh h_64)
    refine lv_aload_n G.1 G.2.1 dX11_feed_88 rfl (lv_at hl 1 rfl) ?_
    refine py_get (C := RX11) (T := TX11) (N := 16) (k := 0) (v := .ref tape) G hw in_X11_feed_X11 rfl hh (by decide) (by decide +kernel) rfl dX11_feed_89 ?_
    refine py_get (C := RX8) (T := TX8) (N := 4) (k := 1) (v := .int (nI (((((0 + fd_n a) + fd_n b) + fd_n q) + fd_n d) + fd_n v))) G hw in_X11_feed_X8 rfl h_73 (by decide) (by decide +kernel) rfl dX11_feed_92 ?_
    exact py_iret G hr rfl hlk hw ⟨by simp only [Nat.zero_add], hMp⟩ dX11_feed_95
  · skip
    exact absurd (nI_le (b := 160) (by have z1 := fd_nl a; have z2 := fd_nl b; have z3 := fd_nl q; have z4 := fd_nl d; have z5 := fd_nl v; omega) (by decide)) c_26

def w_X12_byteOf : List Cond := .code yX12_byteOf cX12_byteOf 7 (some .int) :: ([] ++ ([]))
set_option maxHeartbeats 4000000 in
set_option maxRecDepth 100000 in
theorem c_X12_byteOf (l : Launch) (E : py_E) (L : List Nat) (f : py_F) (sz : Nat) (a b q d v k : Int32) (i : Nat) (hi : i < 20) (hk : k = nI i) : Met l yX12_byteOf w_X12_byteOf ({ frames := 0, cells := 0, slots := 0, locals := 0 }) (py_Pc E [.int a, .int b, .int q, .int d, .int v, .int k] L f sz) (py_Qi E L f sz (fun r L1 f1 => r = fd_w a b q d v i ∧ L = L1 ∧ f = f1)) 0 0 (va_A (va_pl L f) sz) := by
  refine Met.ofW (cc := cX12_byteOf) (maxL := 7) (ret := (some .int)) (by decide) rfl ?_
  intro p e s m args below meth c s₁ B hml hv
  obtain ⟨rfl, rfl, hw⟩ := py_start hv
  have G : CallFix p m c cX12_byteOf 7 s _ w_X12_byteOf RX12 := ⟨B.exec, B.bytes, hml, findClass_of_methodNamed B.named, atoms_spec (ws := w_X12_byteOf) B.pre⟩
  have hr := B.returns
  have hlk := B.notSynchronized
  have hl := lv_entry ([.int a, .int b, .int q, .int d, .int v, .int k]) (n := 7) (Nat.le_of_ble_eq_true rfl)
  rw [lg_entry_eq]
  generalize (lg_sl ([.int a, .int b, .int q, .int d, .int v, .int k]) ++ List.replicate (7 - (lg_sl ([.int a, .int b, .int q, .int d, .int v, .int k])).length) Slot.unset).toArray = ls at hl ⊢
  have hl : lv_has ls 7 [(0, .int a), (1, .int b), (2, .int q), (3, .int d), (4, .int v), (5, .int k)] := hl
  rcases (show i = 0 ∨ i = 1 ∨ i = 2 ∨ i = 3 ∨ i = 4 ∨ i = 5 ∨ i = 6 ∨ i = 7 ∨ i = 8 ∨ i = 9 ∨ i = 10 ∨ i = 11 ∨ i = 12 ∨ i = 13 ∨ i = 14 ∨ i = 15 ∨ i = 16 ∨ i = 17 ∨ i = 18 ∨ i = 19 by omega) with rfl | rfl | rfl | rfl | rfl | rfl | rfl | rfl | rfl | rfl | rfl | rfl | rfl | rfl | rfl | rfl | rfl | rfl | rfl | rfl
  · subst hk
    have hl : lv_has ls 7 [(0, .int a), (1, .int b), (2, .int q), (3, .int d), (4, .int v), (5, .int 0)] := hl
    refine lv_iload G.1 G.2.1 dX12_byteOf_0 (lv_at hl 5 rfl) ?_
    refine lv_iconst (v := 4) G.1 G.2.1 dX12_byteOf_2 (by decide) ?_
    refine lv_icmp_ge (tgt := 10) G.1 G.2.1 dX12_byteOf_3 (by decide) (fun c_1 => ?_) (fun c_1 => ?_)
    · skip
      exact absurd c_1 (by decide)
    · skip
      refine lv_iload_n G.1 G.2.1 dX12_byteOf_6 rfl (lv_at hl 0 rfl) ?_
      refine lv_goto (tgt := 45) G.1 G.2.1 dX12_byteOf_7 (by decide) ?_
      refine lv_istore (lv' := [(6, .int a), (0, .int a), (1, .int b), (2, .int q), (3, .int d), (4, .int v), (5, .int 0)]) G.1 G.2.1 dX12_byteOf_45 hl (by decide) rfl (fun ls hl => ?_)
      refine lv_iload G.1 G.2.1 dX12_byteOf_47 (lv_at hl 0 rfl) ?_
      refine lv_bipush (v := 24) G.1 G.2.1 dX12_byteOf_49 (by decide) ?_
      refine lv_bipush (v := 8) G.1 G.2.1 dX12_byteOf_51 (by decide) ?_
      refine lv_iload G.1 G.2.1 dX12_byteOf_53 (lv_at hl 6 rfl) ?_
      refine lv_iconst (v := 4) G.1 G.2.1 dX12_byteOf_55 (by decide) ?_
      refine lv_irem G.1 G.2.1 dX12_byteOf_56 (by decide) ?_
      rw [show 0 - 0 / 4 * 4 = (0 : Int32) by decide]
      refine lv_imul G.1 G.2.1 dX12_byteOf_57 ?_
      rw [show 8 * 0 = (0 : Int32) by decide]
      refine lv_isub G.1 G.2.1 dX12_byteOf_58 ?_
      rw [show 24 - 0 = (24 : Int32) by decide]
      refine lv_ishr G.1 G.2.1 dX12_byteOf_59 ?_
      refine lv_topi (fun x_2 ex_2 => ?_)
      refine lv_sipush (v := 255) G.1 G.2.1 dX12_byteOf_60 (by decide) ?_
      refine lv_iand G.1 G.2.1 dX12_byteOf_63 ?_
      refine lv_topi (fun x_3 ex_3 => ?_)
      exact py_iret G hr rfl hlk hw ⟨by rw [ex_3, ex_2]; exact fd_bit a 24 (by decide), rfl, rfl⟩ dX12_byteOf_64
  · subst hk
    have hl : lv_has ls 7 [(0, .int a), (1, .int b), (2, .int q), (3, .int d), (4, .int v), (5, .int 1)] := hl
    refine lv_iload G.1 G.2.1 dX12_byteOf_0 (lv_at hl 5 rfl) ?_
    refine lv_iconst (v := 4) G.1 G.2.1 dX12_byteOf_2 (by decide) ?_
    refine lv_icmp_ge (tgt := 10) G.1 G.2.1 dX12_byteOf_3 (by decide) (fun c_4 => ?_) (fun c_4 => ?_)
    · skip
      exact absurd c_4 (by decide)
    · skip
      refine lv_iload_n G.1 G.2.1 dX12_byteOf_6 rfl (lv_at hl 0 rfl) ?_
      refine lv_goto (tgt := 45) G.1 G.2.1 dX12_byteOf_7 (by decide) ?_
      refine lv_istore (lv' := [(6, .int a), (0, .int a), (1, .int b), (2, .int q), (3, .int d), (4, .int v), (5, .int 1)]) G.1 G.2.1 dX12_byteOf_45 hl (by decide) rfl (fun ls hl => ?_)
      refine lv_iload G.1 G.2.1 dX12_byteOf_47 (lv_at hl 0 rfl) ?_
      refine lv_bipush (v := 24) G.1 G.2.1 dX12_byteOf_49 (by decide) ?_
      refine lv_bipush (v := 8) G.1 G.2.1 dX12_byteOf_51 (by decide) ?_
      refine lv_iload G.1 G.2.1 dX12_byteOf_53 (lv_at hl 6 rfl) ?_
      refine lv_iconst (v := 4) G.1 G.2.1 dX12_byteOf_55 (by decide) ?_
      refine lv_irem G.1 G.2.1 dX12_byteOf_56 (by decide) ?_
      rw [show 1 - 1 / 4 * 4 = (1 : Int32) by decide]
      refine lv_imul G.1 G.2.1 dX12_byteOf_57 ?_
      rw [show 8 * 1 = (8 : Int32) by decide]
      refine lv_isub G.1 G.2.1 dX12_byteOf_58 ?_
      rw [show 24 - 8 = (16 : Int32) by decide]
      refine lv_ishr G.1 G.2.1 dX12_byteOf_59 ?_
      refine lv_topi (fun x_5 ex_5 => ?_)
      refine lv_sipush (v := 255) G.1 G.2.1 dX12_byteOf_60 (by decide) ?_
      refine lv_iand G.1 G.2.1 dX12_byteOf_63 ?_
      refine lv_topi (fun x_6 ex_6 => ?_)
      exact py_iret G hr rfl hlk hw ⟨by rw [ex_6, ex_5]; exact fd_bit a 16 (by decide), rfl, rfl⟩ dX12_byteOf_64
  · subst hk
    have hl : lv_has ls 7 [(0, .int a), (1, .int b), (2, .int q), (3, .int d), (4, .int v), (5, .int 2)] := hl
    refine lv_iload G.1 G.2.1 dX12_byteOf_0 (lv_at hl 5 rfl) ?_
    refine lv_iconst (v := 4) G.1 G.2.1 dX12_byteOf_2 (by decide) ?_
    refine lv_icmp_ge (tgt := 10) G.1 G.2.1 dX12_byteOf_3 (by decide) (fun c_7 => ?_) (fun c_7 => ?_)
    · skip
      exact absurd c_7 (by decide)
    · skip
      refine lv_iload_n G.1 G.2.1 dX12_byteOf_6 rfl (lv_at hl 0 rfl) ?_
      refine lv_goto (tgt := 45) G.1 G.2.1 dX12_byteOf_7 (by decide) ?_
      refine lv_istore (lv' := [(6, .int a), (0, .int a), (1, .int b), (2, .int q), (3, .int d), (4, .int v), (5, .int 2)]) G.1 G.2.1 dX12_byteOf_45 hl (by decide) rfl (fun ls hl => ?_)
      refine lv_iload G.1 G.2.1 dX12_byteOf_47 (lv_at hl 0 rfl) ?_
      refine lv_bipush (v := 24) G.1 G.2.1 dX12_byteOf_49 (by decide) ?_
      refine lv_bipush (v := 8) G.1 G.2.1 dX12_byteOf_51 (by decide) ?_
      refine lv_iload G.1 G.2.1 dX12_byteOf_53 (lv_at hl 6 rfl) ?_
      refine lv_iconst (v := 4) G.1 G.2.1 dX12_byteOf_55 (by decide) ?_
      refine lv_irem G.1 G.2.1 dX12_byteOf_56 (by decide) ?_
      rw [show 2 - 2 / 4 * 4 = (2 : Int32) by decide]
      refine lv_imul G.1 G.2.1 dX12_byteOf_57 ?_
      rw [show 8 * 2 = (16 : Int32) by decide]
      refine lv_isub G.1 G.2.1 dX12_byteOf_58 ?_
      rw [show 24 - 16 = (8 : Int32) by decide]
      refine lv_ishr G.1 G.2.1 dX12_byteOf_59 ?_
      refine lv_topi (fun x_8 ex_8 => ?_)
      refine lv_sipush (v := 255) G.1 G.2.1 dX12_byteOf_60 (by decide) ?_
      refine lv_iand G.1 G.2.1 dX12_byteOf_63 ?_
      refine lv_topi (fun x_9 ex_9 => ?_)
      exact py_iret G hr rfl hlk hw ⟨by rw [ex_9, ex_8]; exact fd_bit a 8 (by decide), rfl, rfl⟩ dX12_byteOf_64
  · subst hk
    have hl : lv_has ls 7 [(0, .int a), (1, .int b), (2, .int q), (3, .int d), (4, .int v), (5, .int 3)] := hl
    refine lv_iload G.1 G.2.1 dX12_byteOf_0 (lv_at hl 5 rfl) ?_
    refine lv_iconst (v := 4) G.1 G.2.1 dX12_byteOf_2 (by decide) ?_
    refine lv_icmp_ge (tgt := 10) G.1 G.2.1 dX12_byteOf_3 (by decide) (fun c_10 => ?_) (fun c_10 => ?_)
    · skip
      exact absurd c_10 (by decide)
    · skip
      refine lv_iload_n G.1 G.2.1 dX12_byteOf_6 rfl (lv_at hl 0 rfl) ?_
      refine lv_goto (tgt := 45) G.1 G.2.1 dX12_byteOf_7 (by decide) ?_
      refine lv_istore (lv' := [(6, .int a), (0, .int a), (1, .int b), (2, .int q), (3, .int d), (4, .int v), (5, .int 3)]) G.1 G.2.1 dX12_byteOf_45 hl (by decide) rfl (fun ls hl => ?_)
      refine lv_iload G.1 G.2.1 dX12_byteOf_47 (lv_at hl 0 rfl) ?_
      refine lv_bipush (v := 24) G.1 G.2.1 dX12_byteOf_49 (by decide) ?_
      refine lv_bipush (v := 8) G.1 G.2.1 dX12_byteOf_51 (by decide) ?_
      refine lv_iload G.1 G.2.1 dX12_byteOf_53 (lv_at hl 6 rfl) ?_
      refine lv_iconst (v := 4) G.1 G.2.1 dX12_byteOf_55 (by decide) ?_
      refine lv_irem G.1 G.2.1 dX12_byteOf_56 (by decide) ?_
      rw [show 3 - 3 / 4 * 4 = (3 : Int32) by decide]
      refine lv_imul G.1 G.2.1 dX12_byteOf_57 ?_
      rw [show 8 * 3 = (24 : Int32) by decide]
      refine lv_isub G.1 G.2.1 dX12_byteOf_58 ?_
      rw [show 24 - 24 = (0 : Int32) by decide]
      refine lv_ishr G.1 G.2.1 dX12_byteOf_59 ?_
      refine lv_topi (fun x_11 ex_11 => ?_)
      refine lv_sipush (v := 255) G.1 G.2.1 dX12_byteOf_60 (by decide) ?_
      refine lv_iand G.1 G.2.1 dX12_byteOf_63 ?_
      refine lv_topi (fun x_12 ex_12 => ?_)
      exact py_iret G hr rfl hlk hw ⟨by rw [ex_12, ex_11]; exact fd_bit a 0 (by decide), rfl, rfl⟩ dX12_byteOf_64
  · subst hk
    have hl : lv_has ls 7 [(0, .int a), (1, .int b), (2, .int q), (3, .int d), (4, .int v), (5, .int 4)] := hl
    refine lv_iload G.1 G.2.1 dX12_byteOf_0 (lv_at hl 5 rfl) ?_
    refine lv_iconst (v := 4) G.1 G.2.1 dX12_byteOf_2 (by decide) ?_
    refine lv_icmp_ge (tgt := 10) G.1 G.2.1 dX12_byteOf_3 (by decide) (fun c_13 => ?_) (fun c_13 => ?_)
    · skip
      refine lv_iload G.1 G.2.1 dX12_byteOf_10 (lv_at hl 5 rfl) ?_
      refine lv_bipush (v := 8) G.1 G.2.1 dX12_byteOf_12 (by decide) ?_
      refine lv_icmp_ge (tgt := 21) G.1 G.2.1 dX12_byteOf_14 (by decide) (fun c_14 => ?_) (fun c_14 => ?_)
      · skip
        exact absurd c_14 (by decide)
      · skip
        refine lv_iload_n G.1 G.2.1 dX12_byteOf_17 rfl (lv_at hl 1 rfl) ?_
        refine lv_goto (tgt := 45) G.1 G.2.1 dX12_byteOf_18 (by decide) ?_
        refine lv_istore (lv' := [(6, .int b), (0, .int a), (1, .int b), (2, .int q), (3, .int d), (4, .int v), (5, .int 4)]) G.1 G.2.1 dX12_byteOf_45 hl (by decide) rfl (fun ls hl => ?_)
        refine lv_iload G.1 G.2.1 dX12_byteOf_47 (lv_at hl 0 rfl) ?_
        refine lv_bipush (v := 24) G.1 G.2.1 dX12_byteOf_49 (by decide) ?_
        refine lv_bipush (v := 8) G.1 G.2.1 dX12_byteOf_51 (by decide) ?_
        refine lv_iload G.1 G.2.1 dX12_byteOf_53 (lv_at hl 6 rfl) ?_
        refine lv_iconst (v := 4) G.1 G.2.1 dX12_byteOf_55 (by decide) ?_
        refine lv_irem G.1 G.2.1 dX12_byteOf_56 (by decide) ?_
        rw [show 4 - 4 / 4 * 4 = (0 : Int32) by decide]
        refine lv_imul G.1 G.2.1 dX12_byteOf_57 ?_
        rw [show 8 * 0 = (0 : Int32) by decide]
        refine lv_isub G.1 G.2.1 dX12_byteOf_58 ?_
        rw [show 24 - 0 = (24 : Int32) by decide]
        refine lv_ishr G.1 G.2.1 dX12_byteOf_59 ?_
        refine lv_topi (fun x_15 ex_15 => ?_)
        refine lv_sipush (v := 255) G.1 G.2.1 dX12_byteOf_60 (by decide) ?_
        refine lv_iand G.1 G.2.1 dX12_byteOf_63 ?_
        refine lv_topi (fun x_16 ex_16 => ?_)
        exact py_iret G hr rfl hlk hw ⟨by rw [ex_16, ex_15]; exact fd_bit b 24 (by decide), rfl, rfl⟩ dX12_byteOf_64
    · skip
      exact absurd c_13 (by decide)
  · subst hk
    have hl : lv_has ls 7 [(0, .int a), (1, .int b), (2, .int q), (3, .int d), (4, .int v), (5, .int 5)] := hl
    refine lv_iload G.1 G.2.1 dX12_byteOf_0 (lv_at hl 5 rfl) ?_
    refine lv_iconst (v := 4) G.1 G.2.1 dX12_byteOf_2 (by decide) ?_
    refine lv_icmp_ge (tgt := 10) G.1 G.2.1 dX12_byteOf_3 (by decide) (fun c_17 => ?_) (fun c_17 => ?_)
    · skip
      refine lv_iload G.1 G.2.1 dX12_byteOf_10 (lv_at hl 5 rfl) ?_
      refine lv_bipush (v := 8) G.1 G.2.1 dX12_byteOf_12 (by decide) ?_
      refine lv_icmp_ge (tgt := 21) G.1 G.2.1 dX12_byteOf_14 (by decide) (fun c_18 => ?_) (fun c_18 => ?_)
      · skip
        exact absurd c_18 (by decide)
      · skip
        refine lv_iload_n G.1 G.2.1 dX12_byteOf_17 rfl (lv_at hl 1 rfl) ?_
        refine lv_goto (tgt := 45) G.1 G.2.1 dX12_byteOf_18 (by decide) ?_
        refine lv_istore (lv' := [(6, .int b), (0, .int a), (1, .int b), (2, .int q), (3, .int d), (4, .int v), (5, .int 5)]) G.1 G.2.1 dX12_byteOf_45 hl (by decide) rfl (fun ls hl => ?_)
        refine lv_iload G.1 G.2.1 dX12_byteOf_47 (lv_at hl 0 rfl) ?_
        refine lv_bipush (v := 24) G.1 G.2.1 dX12_byteOf_49 (by decide) ?_
        refine lv_bipush (v := 8) G.1 G.2.1 dX12_byteOf_51 (by decide) ?_
        refine lv_iload G.1 G.2.1 dX12_byteOf_53 (lv_at hl 6 rfl) ?_
        refine lv_iconst (v := 4) G.1 G.2.1 dX12_byteOf_55 (by decide) ?_
        refine lv_irem G.1 G.2.1 dX12_byteOf_56 (by decide) ?_
        rw [show 5 - 5 / 4 * 4 = (1 : Int32) by decide]
        refine lv_imul G.1 G.2.1 dX12_byteOf_57 ?_
        rw [show 8 * 1 = (8 : Int32) by decide]
        refine lv_isub G.1 G.2.1 dX12_byteOf_58 ?_
        rw [show 24 - 8 = (16 : Int32) by decide]
        refine lv_ishr G.1 G.2.1 dX12_byteOf_59 ?_
        refine lv_topi (fun x_19 ex_19 => ?_)
        refine lv_sipush (v := 255) G.1 G.2.1 dX12_byteOf_60 (by decide) ?_
        refine lv_iand G.1 G.2.1 dX12_byteOf_63 ?_
        refine lv_topi (fun x_20 ex_20 => ?_)
        exact py_iret G hr rfl hlk hw ⟨by rw [ex_20, ex_19]; exact fd_bit b 16 (by decide), rfl, rfl⟩ dX12_byteOf_64
    · skip
      exact absurd c_17 (by decide)
  · subst hk
    have hl : lv_has ls 7 [(0, .int a), (1, .int b), (2, .int q), (3, .int d), (4, .int v), (5, .int 6)] := hl
    refine lv_iload G.1 G.2.1 dX12_byteOf_0 (lv_at hl 5 rfl) ?_
    refine lv_iconst (v := 4) G.1 G.2.1 dX12_byteOf_2 (by decide) ?_
    refine lv_icmp_ge (tgt := 10) G.1 G.2.1 dX12_byteOf_3 (by decide) (fun c_21 => ?_) (fun c_21 => ?_)
    · skip
      refine lv_iload G.1 G.2.1 dX12_byteOf_10 (lv_at hl 5 rfl) ?_
      refine lv_bipush (v := 8) G.1 G.2.1 dX12_byteOf_12 (by decide) ?_
      refine lv_icmp_ge (tgt := 21) G.1 G.2.1 dX12_byteOf_14 (by decide) (fun c_22 => ?_) (fun c_22 => ?_)
      · skip
        exact absurd c_22 (by decide)
      · skip
        refine lv_iload_n G.1 G.2.1 dX12_byteOf_17 rfl (lv_at hl 1 rfl) ?_
        refine lv_goto (tgt := 45) G.1 G.2.1 dX12_byteOf_18 (by decide) ?_
        refine lv_istore (lv' := [(6, .int b), (0, .int a), (1, .int b), (2, .int q), (3, .int d), (4, .int v), (5, .int 6)]) G.1 G.2.1 dX12_byteOf_45 hl (by decide) rfl (fun ls hl => ?_)
        refine lv_iload G.1 G.2.1 dX12_byteOf_47 (lv_at hl 0 rfl) ?_
        refine lv_bipush (v := 24) G.1 G.2.1 dX12_byteOf_49 (by decide) ?_
        refine lv_bipush (v := 8) G.1 G.2.1 dX12_byteOf_51 (by decide) ?_
        refine lv_iload G.1 G.2.1 dX12_byteOf_53 (lv_at hl 6 rfl) ?_
        refine lv_iconst (v := 4) G.1 G.2.1 dX12_byteOf_55 (by decide) ?_
        refine lv_irem G.1 G.2.1 dX12_byteOf_56 (by decide) ?_
        rw [show 6 - 6 / 4 * 4 = (2 : Int32) by decide]
        refine lv_imul G.1 G.2.1 dX12_byteOf_57 ?_
        rw [show 8 * 2 = (16 : Int32) by decide]
        refine lv_isub G.1 G.2.1 dX12_byteOf_58 ?_
        rw [show 24 - 16 = (8 : Int32) by decide]
        refine lv_ishr G.1 G.2.1 dX12_byteOf_59 ?_
        refine lv_topi (fun x_23 ex_23 => ?_)
        refine lv_sipush (v := 255) G.1 G.2.1 dX12_byteOf_60 (by decide) ?_
        refine lv_iand G.1 G.2.1 dX12_byteOf_63 ?_
        refine lv_topi (fun x_24 ex_24 => ?_)
        exact py_iret G hr rfl hlk hw ⟨by rw [ex_24, ex_23]; exact fd_bit b 8 (by decide), rfl, rfl⟩ dX12_byteOf_64
    · skip
      exact absurd c_21 (by decide)
  · subst hk
    have hl : lv_has ls 7 [(0, .int a), (1, .int b), (2, .int q), (3, .int d), (4, .int v), (5, .int 7)] := hl
    refine lv_iload G.1 G.2.1 dX12_byteOf_0 (lv_at hl 5 rfl) ?_
    refine lv_iconst (v := 4) G.1 G.2.1 dX12_byteOf_2 (by decide) ?_
    refine lv_icmp_ge (tgt := 10) G.1 G.2.1 dX12_byteOf_3 (by decide) (fun c_25 => ?_) (fun c_25 => ?_)
    · skip
      refine lv_iload G.1 G.2.1 dX12_byteOf_10 (lv_at hl 5 rfl) ?_
      refine lv_bipush (v := 8) G.1 G.2.1 dX12_byteOf_12 (by decide) ?_
      refine lv_icmp_ge (tgt := 21) G.1 G.2.1 dX12_byteOf_14 (by decide) (fun c_26 => ?_) (fun c_26 => ?_)
      · skip
        exact absurd c_26 (by decide)
      · skip
        refine lv_iload_n G.1 G.2.1 dX12_byteOf_17 rfl (lv_at hl 1 rfl) ?_
        refine lv_goto (tgt := 45) G.1 G.2.1 dX12_byteOf_18 (by decide) ?_
        refine lv_istore (lv' := [(6, .int b), (0, .int a), (1, .int b), (2, .int q), (3, .int d), (4, .int v), (5, .int 7)]) G.1 G.2.1 dX12_byteOf_45 hl (by decide) rfl (fun ls hl => ?_)
        refine lv_iload G.1 G.2.1 dX12_byteOf_47 (lv_at hl 0 rfl) ?_
        refine lv_bipush (v := 24) G.1 G.2.1 dX12_byteOf_49 (by decide) ?_
        refine lv_bipush (v := 8) G.1 G.2.1 dX12_byteOf_51 (by decide) ?_
        refine lv_iload G.1 G.2.1 dX12_byteOf_53 (lv_at hl 6 rfl) ?_
        refine lv_iconst (v := 4) G.1 G.2.1 dX12_byteOf_55 (by decide) ?_
        refine lv_irem G.1 G.2.1 dX12_byteOf_56 (by decide) ?_
        rw [show 7 - 7 / 4 * 4 = (3 : Int32) by decide]
        refine lv_imul G.1 G.2.1 dX12_byteOf_57 ?_
        rw [show 8 * 3 = (24 : Int32) by decide]
        refine lv_isub G.1 G.2.1 dX12_byteOf_58 ?_
        rw [show 24 - 24 = (0 : Int32) by decide]
        refine lv_ishr G.1 G.2.1 dX12_byteOf_59 ?_
        refine lv_topi (fun x_27 ex_27 => ?_)
        refine lv_sipush (v := 255) G.1 G.2.1 dX12_byteOf_60 (by decide) ?_
        refine lv_iand G.1 G.2.1 dX12_byteOf_63 ?_
        refine lv_topi (fun x_28 ex_28 => ?_)
        exact py_iret G hr rfl hlk hw ⟨by rw [ex_28, ex_27]; exact fd_bit b 0 (by decide), rfl, rfl⟩ dX12_byteOf_64
    · skip
      exact absurd c_25 (by decide)
  · subst hk
    have hl : lv_has ls 7 [(0, .int a), (1, .int b), (2, .int q), (3, .int d), (4, .int v), (5, .int 8)] := hl
    refine lv_iload G.1 G.2.1 dX12_byteOf_0 (lv_at hl 5 rfl) ?_
    refine lv_iconst (v := 4) G.1 G.2.1 dX12_byteOf_2 (by decide) ?_
    refine lv_icmp_ge (tgt := 10) G.1 G.2.1 dX12_byteOf_3 (by decide) (fun c_29 => ?_) (fun c_29 => ?_)
    · skip
      refine lv_iload G.1 G.2.1 dX12_byteOf_10 (lv_at hl 5 rfl) ?_
      refine lv_bipush (v := 8) G.1 G.2.1 dX12_byteOf_12 (by decide) ?_
      refine lv_icmp_ge (tgt := 21) G.1 G.2.1 dX12_byteOf_14 (by decide) (fun c_30 => ?_) (fun c_30 => ?_)
      · skip
        refine lv_iload G.1 G.2.1 dX12_byteOf_21 (lv_at hl 5 rfl) ?_
        refine lv_bipush (v := 12) G.1 G.2.1 dX12_byteOf_23 (by decide) ?_
        refine lv_icmp_ge (tgt := 32) G.1 G.2.1 dX12_byteOf_25 (by decide) (fun c_31 => ?_) (fun c_31 => ?_)
        · skip
          exact absurd c_31 (by decide)
        · skip
          refine lv_iload_n G.1 G.2.1 dX12_byteOf_28 rfl (lv_at hl 2 rfl) ?_
          refine lv_goto (tgt := 45) G.1 G.2.1 dX12_byteOf_29 (by decide) ?_
          refine lv_istore (lv' := [(6, .int q), (0, .int a), (1, .int b), (2, .int q), (3, .int d), (4, .int v), (5, .int 8)]) G.1 G.2.1 dX12_byteOf_45 hl (by decide) rfl (fun ls hl => ?_)
          refine lv_iload G.1 G.2.1 dX12_byteOf_47 (lv_at hl 0 rfl) ?_
          refine lv_bipush (v := 24) G.1 G.2.1 dX12_byteOf_49 (by decide) ?_
          refine lv_bipush (v := 8) G.1 G.2.1 dX12_byteOf_51 (by decide) ?_
          refine lv_iload G.1 G.2.1 dX12_byteOf_53 (lv_at hl 6 rfl) ?_
          refine lv_iconst (v := 4) G.1 G.2.1 dX12_byteOf_55 (by decide) ?_
          refine lv_irem G.1 G.2.1 dX12_byteOf_56 (by decide) ?_
          rw [show 8 - 8 / 4 * 4 = (0 : Int32) by decide]
          refine lv_imul G.1 G.2.1 dX12_byteOf_57 ?_
          rw [show 8 * 0 = (0 : Int32) by decide]
          refine lv_isub G.1 G.2.1 dX12_byteOf_58 ?_
          rw [show 24 - 0 = (24 : Int32) by decide]
          refine lv_ishr G.1 G.2.1 dX12_byteOf_59 ?_
          refine lv_topi (fun x_32 ex_32 => ?_)
          refine lv_sipush (v := 255) G.1 G.2.1 dX12_byteOf_60 (by decide) ?_
          refine lv_iand G.1 G.2.1 dX12_byteOf_63 ?_
          refine lv_topi (fun x_33 ex_33 => ?_)
          exact py_iret G hr rfl hlk hw ⟨by rw [ex_33, ex_32]; exact fd_bit q 24 (by decide), rfl, rfl⟩ dX12_byteOf_64
      · skip
        exact absurd c_30 (by decide)
    · skip
      exact absurd c_29 (by decide)
  · subst hk
    have hl : lv_has ls 7 [(0, .int a), (1, .int b), (2, .int q), (3, .int d), (4, .int v), (5, .int 9)] := hl
    refine lv_iload G.1 G.2.1 dX12_byteOf_0 (lv_at hl 5 rfl) ?_
    refine lv_iconst (v := 4) G.1 G.2.1 dX12_byteOf_2 (by decide) ?_
    refine lv_icmp_ge (tgt := 10) G.1 G.2.1 dX12_byteOf_3 (by decide) (fun c_34 => ?_) (fun c_34 => ?_)
    · skip
      refine lv_iload G.1 G.2.1 dX12_byteOf_10 (lv_at hl 5 rfl) ?_
      refine lv_bipush (v := 8) G.1 G.2.1 dX12_byteOf_12 (by decide) ?_
      refine lv_icmp_ge (tgt := 21) G.1 G.2.1 dX12_byteOf_14 (by decide) (fun c_35 => ?_) (fun c_35 => ?_)
      · skip
        refine lv_iload G.1 G.2.1 dX12_byteOf_21 (lv_at hl 5 rfl) ?_
        refine lv_bipush (v := 12) G.1 G.2.1 dX12_byteOf_23 (by decide) ?_
        refine lv_icmp_ge (tgt := 32) G.1 G.2.1 dX12_byteOf_25 (by decide) (fun c_36 => ?_) (fun c_36 => ?_)
        · skip
          exact absurd c_36 (by decide)
        · skip
          refine lv_iload_n G.1 G.2.1 dX12_byteOf_28 rfl (lv_at hl 2 rfl) ?_
          refine lv_goto (tgt := 45) G.1 G.2.1 dX12_byteOf_29 (by decide) ?_
          refine lv_istore (lv' := [(6, .int q), (0, .int a), (1, .int b), (2, .int q), (3, .int d), (4, .int v), (5, .int 9)]) G.1 G.2.1 dX12_byteOf_45 hl (by decide) rfl (fun ls hl => ?_)
          refine lv_iload G.1 G.2.1 dX12_byteOf_47 (lv_at hl 0 rfl) ?_
          refine lv_bipush (v := 24) G.1 G.2.1 dX12_byteOf_49 (by decide) ?_
          refine lv_bipush (v := 8) G.1 G.2.1 dX12_byteOf_51 (by decide) ?_
          refine lv_iload G.1 G.2.1 dX12_byteOf_53 (lv_at hl 6 rfl) ?_
          refine lv_iconst (v := 4) G.1 G.2.1 dX12_byteOf_55 (by decide) ?_
          refine lv_irem G.1 G.2.1 dX12_byteOf_56 (by decide) ?_
          rw [show 9 - 9 / 4 * 4 = (1 : Int32) by decide]
          refine lv_imul G.1 G.2.1 dX12_byteOf_57 ?_
          rw [show 8 * 1 = (8 : Int32) by decide]
          refine lv_isub G.1 G.2.1 dX12_byteOf_58 ?_
          rw [show 24 - 8 = (16 : Int32) by decide]
          refine lv_ishr G.1 G.2.1 dX12_byteOf_59 ?_
          refine lv_topi (fun x_37 ex_37 => ?_)
          refine lv_sipush (v := 255) G.1 G.2.1 dX12_byteOf_60 (by decide) ?_
          refine lv_iand G.1 G.2.1 dX12_byteOf_63 ?_
          refine lv_topi (fun x_38 ex_38 => ?_)
          exact py_iret G hr rfl hlk hw ⟨by rw [ex_38, ex_37]; exact fd_bit q 16 (by decide), rfl, rfl⟩ dX12_byteOf_64
      · skip
        exact absurd c_35 (by decide)
    · skip
      exact absurd c_34 (by decide)
  · subst hk
    have hl : lv_has ls 7 [(0, .int a), (1, .int b), (2, .int q), (3, .int d), (4, .int v), (5, .int 10)] := hl
    refine lv_iload G.1 G.2.1 dX12_byteOf_0 (lv_at hl 5 rfl) ?_
    refine lv_iconst (v := 4) G.1 G.2.1 dX12_byteOf_2 (by decide) ?_
    refine lv_icmp_ge (tgt := 10) G.1 G.2.1 dX12_byteOf_3 (by decide) (fun c_39 => ?_) (fun c_39 => ?_)
    · skip
      refine lv_iload G.1 G.2.1 dX12_byteOf_10 (lv_at hl 5 rfl) ?_
      refine lv_bipush (v := 8) G.1 G.2.1 dX12_byteOf_12 (by decide) ?_
      refine lv_icmp_ge (tgt := 21) G.1 G.2.1 dX12_byteOf_14 (by decide) (fun c_40 => ?_) (fun c_40 => ?_)
      · skip
        refine lv_iload G.1 G.2.1 dX12_byteOf_21 (lv_at hl 5 rfl) ?_
        refine lv_bipush (v := 12) G.1 G.2.1 dX12_byteOf_23 (by decide) ?_
        refine lv_icmp_ge (tgt := 32) G.1 G.2.1 dX12_byteOf_25 (by decide) (fun c_41 => ?_) (fun c_41 => ?_)
        · skip
          exact absurd c_41 (by decide)
        · skip
          refine lv_iload_n G.1 G.2.1 dX12_byteOf_28 rfl (lv_at hl 2 rfl) ?_
          refine lv_goto (tgt := 45) G.1 G.2.1 dX12_byteOf_29 (by decide) ?_
          refine lv_istore (lv' := [(6, .int q), (0, .int a), (1, .int b), (2, .int q), (3, .int d), (4, .int v), (5, .int 10)]) G.1 G.2.1 dX12_byteOf_45 hl (by decide) rfl (fun ls hl => ?_)
          refine lv_iload G.1 G.2.1 dX12_byteOf_47 (lv_at hl 0 rfl) ?_
          refine lv_bipush (v := 24) G.1 G.2.1 dX12_byteOf_49 (by decide) ?_
          refine lv_bipush (v := 8) G.1 G.2.1 dX12_byteOf_51 (by decide) ?_
          refine lv_iload G.1 G.2.1 dX12_byteOf_53 (lv_at hl 6 rfl) ?_
          refine lv_iconst (v := 4) G.1 G.2.1 dX12_byteOf_55 (by decide) ?_
          refine lv_irem G.1 G.2.1 dX12_byteOf_56 (by decide) ?_
          rw [show 10 - 10 / 4 * 4 = (2 : Int32) by decide]
          refine lv_imul G.1 G.2.1 dX12_byteOf_57 ?_
          rw [show 8 * 2 = (16 : Int32) by decide]
          refine lv_isub G.1 G.2.1 dX12_byteOf_58 ?_
          rw [show 24 - 16 = (8 : Int32) by decide]
          refine lv_ishr G.1 G.2.1 dX12_byteOf_59 ?_
          refine lv_topi (fun x_42 ex_42 => ?_)
          refine lv_sipush (v := 255) G.1 G.2.1 dX12_byteOf_60 (by decide) ?_
          refine lv_iand G.1 G.2.1 dX12_byteOf_63 ?_
          refine lv_topi (fun x_43 ex_43 => ?_)
          exact py_iret G hr rfl hlk hw ⟨by rw [ex_43, ex_42]; exact fd_bit q 8 (by decide), rfl, rfl⟩ dX12_byteOf_64
      · skip
        exact absurd c_40 (by decide)
    · skip
      exact absurd c_39 (by decide)
  · subst hk
    have hl : lv_has ls 7 [(0, .int a), (1, .int b), (2, .int q), (3, .int d), (4, .int v), (5, .int 11)] := hl
    refine lv_iload G.1 G.2.1 dX12_byteOf_0 (lv_at hl 5 rfl) ?_
    refine lv_iconst (v := 4) G.1 G.2.1 dX12_byteOf_2 (by decide) ?_
    refine lv_icmp_ge (tgt := 10) G.1 G.2.1 dX12_byteOf_3 (by decide) (fun c_44 => ?_) (fun c_44 => ?_)
    · skip
      refine lv_iload G.1 G.2.1 dX12_byteOf_10 (lv_at hl 5 rfl) ?_
      refine lv_bipush (v := 8) G.1 G.2.1 dX12_byteOf_12 (by decide) ?_
      refine lv_icmp_ge (tgt := 21) G.1 G.2.1 dX12_byteOf_14 (by decide) (fun c_45 => ?_) (fun c_45 => ?_)
      · skip
        refine lv_iload G.1 G.2.1 dX12_byteOf_21 (lv_at hl 5 rfl) ?_
        refine lv_bipush (v := 12) G.1 G.2.1 dX12_byteOf_23 (by decide) ?_
        refine lv_icmp_ge (tgt := 32) G.1 G.2.1 dX12_byteOf_25 (by decide) (fun c_46 => ?_) (fun c_46 => ?_)
        · skip
          exact absurd c_46 (by decide)
        · skip
          refine lv_iload_n G.1 G.2.1 dX12_byteOf_28 rfl (lv_at hl 2 rfl) ?_
          refine lv_goto (tgt := 45) G.1 G.2.1 dX12_byteOf_29 (by decide) ?_
          refine lv_istore (lv' := [(6, .int q), (0, .int a), (1, .int b), (2, .int q), (3, .int d), (4, .int v), (5, .int 11)]) G.1 G.2.1 dX12_byteOf_45 hl (by decide) rfl (fun ls hl => ?_)
          refine lv_iload G.1 G.2.1 dX12_byteOf_47 (lv_at hl 0 rfl) ?_
          refine lv_bipush (v := 24) G.1 G.2.1 dX12_byteOf_49 (by decide) ?_
          refine lv_bipush (v := 8) G.1 G.2.1 dX12_byteOf_51 (by decide) ?_
          refine lv_iload G.1 G.2.1 dX12_byteOf_53 (lv_at hl 6 rfl) ?_
          refine lv_iconst (v := 4) G.1 G.2.1 dX12_byteOf_55 (by decide) ?_
          refine lv_irem G.1 G.2.1 dX12_byteOf_56 (by decide) ?_
          rw [show 11 - 11 / 4 * 4 = (3 : Int32) by decide]
          refine lv_imul G.1 G.2.1 dX12_byteOf_57 ?_
          rw [show 8 * 3 = (24 : Int32) by decide]
          refine lv_isub G.1 G.2.1 dX12_byteOf_58 ?_
          rw [show 24 - 24 = (0 : Int32) by decide]
          refine lv_ishr G.1 G.2.1 dX12_byteOf_59 ?_
          refine lv_topi (fun x_47 ex_47 => ?_)
          refine lv_sipush (v := 255) G.1 G.2.1 dX12_byteOf_60 (by decide) ?_
          refine lv_iand G.1 G.2.1 dX12_byteOf_63 ?_
          refine lv_topi (fun x_48 ex_48 => ?_)
          exact py_iret G hr rfl hlk hw ⟨by rw [ex_48, ex_47]; exact fd_bit q 0 (by decide), rfl, rfl⟩ dX12_byteOf_64
      · skip
        exact absurd c_45 (by decide)
    · skip
      exact absurd c_44 (by decide)
  · subst hk
    have hl : lv_has ls 7 [(0, .int a), (1, .int b), (2, .int q), (3, .int d), (4, .int v), (5, .int 12)] := hl
    refine lv_iload G.1 G.2.1 dX12_byteOf_0 (lv_at hl 5 rfl) ?_
    refine lv_iconst (v := 4) G.1 G.2.1 dX12_byteOf_2 (by decide) ?_
    refine lv_icmp_ge (tgt := 10) G.1 G.2.1 dX12_byteOf_3 (by decide) (fun c_49 => ?_) (fun c_49 => ?_)
    · skip
      refine lv_iload G.1 G.2.1 dX12_byteOf_10 (lv_at hl 5 rfl) ?_
      refine lv_bipush (v := 8) G.1 G.2.1 dX12_byteOf_12 (by decide) ?_
      refine lv_icmp_ge (tgt := 21) G.1 G.2.1 dX12_byteOf_14 (by decide) (fun c_50 => ?_) (fun c_50 => ?_)
      · skip
        refine lv_iload G.1 G.2.1 dX12_byteOf_21 (lv_at hl 5 rfl) ?_
        refine lv_bipush (v := 12) G.1 G.2.1 dX12_byteOf_23 (by decide) ?_
        refine lv_icmp_ge (tgt := 32) G.1 G.2.1 dX12_byteOf_25 (by decide) (fun c_51 => ?_) (fun c_51 => ?_)
        · skip
          refine lv_iload G.1 G.2.1 dX12_byteOf_32 (lv_at hl 5 rfl) ?_
          refine lv_bipush (v := 16) G.1 G.2.1 dX12_byteOf_34 (by decide) ?_
          refine lv_icmp_ge (tgt := 43) G.1 G.2.1 dX12_byteOf_36 (by decide) (fun c_52 => ?_) (fun c_52 => ?_)
          · skip
            exact absurd c_52 (by decide)
          · skip
            refine lv_iload_n G.1 G.2.1 dX12_byteOf_39 rfl (lv_at hl 3 rfl) ?_
            refine lv_goto (tgt := 45) G.1 G.2.1 dX12_byteOf_40 (by decide) ?_
            refine lv_istore (lv' := [(6, .int d), (0, .int a), (1, .int b), (2, .int q), (3, .int d), (4, .int v), (5, .int 12)]) G.1 G.2.1 dX12_byteOf_45 hl (by decide) rfl (fun ls hl => ?_)
            refine lv_iload G.1 G.2.1 dX12_byteOf_47 (lv_at hl 0 rfl) ?_
            refine lv_bipush (v := 24) G.1 G.2.1 dX12_byteOf_49 (by decide) ?_
            refine lv_bipush (v := 8) G.1 G.2.1 dX12_byteOf_51 (by decide) ?_
            refine lv_iload G.1 G.2.1 dX12_byteOf_53 (lv_at hl 6 rfl) ?_
            refine lv_iconst (v := 4) G.1 G.2.1 dX12_byteOf_55 (by decide) ?_
            refine lv_irem G.1 G.2.1 dX12_byteOf_56 (by decide) ?_
            rw [show 12 - 12 / 4 * 4 = (0 : Int32) by decide]
            refine lv_imul G.1 G.2.1 dX12_byteOf_57 ?_
            rw [show 8 * 0 = (0 : Int32) by decide]
            refine lv_isub G.1 G.2.1 dX12_byteOf_58 ?_
            rw [show 24 - 0 = (24 : Int32) by decide]
            refine lv_ishr G.1 G.2.1 dX12_byteOf_59 ?_
            refine lv_topi (fun x_53 ex_53 => ?_)
            refine lv_sipush (v := 255) G.1 G.2.1 dX12_byteOf_60 (by decide) ?_
            refine lv_iand G.1 G.2.1 dX12_byteOf_63 ?_
            refine lv_topi (fun x_54 ex_54 => ?_)
            exact py_iret G hr rfl hlk hw ⟨by rw [ex_54, ex_53]; exact fd_bit d 24 (by decide), rfl, rfl⟩ dX12_byteOf_64
        · skip
          exact absurd c_51 (by decide)
      · skip
        exact absurd c_50 (by decide)
    · skip
      exact absurd c_49 (by decide)
  · subst hk
    have hl : lv_has ls 7 [(0, .int a), (1, .int b), (2, .int q), (3, .int d), (4, .int v), (5, .int 13)] := hl
    refine lv_iload G.1 G.2.1 dX12_byteOf_0 (lv_at hl 5 rfl) ?_
    refine lv_iconst (v := 4) G.1 G.2.1 dX12_byteOf_2 (by decide) ?_
    refine lv_icmp_ge (tgt := 10) G.1 G.2.1 dX12_byteOf_3 (by decide) (fun c_55 => ?_) (fun c_55 => ?_)
    · skip
      refine lv_iload G.1 G.2.1 dX12_byteOf_10 (lv_at hl 5 rfl) ?_
      refine lv_bipush (v := 8) G.1 G.2.1 dX12_byteOf_12 (by decide) ?_
      refine lv_icmp_ge (tgt := 21) G.1 G.2.1 dX12_byteOf_14 (by decide) (fun c_56 => ?_) (fun c_56 => ?_)
      · skip
        refine lv_iload G.1 G.2.1 dX12_byteOf_21 (lv_at hl 5 rfl) ?_
        refine lv_bipush (v := 12) G.1 G.2.1 dX12_byteOf_23 (by decide) ?_
        refine lv_icmp_ge (tgt := 32) G.1 G.2.1 dX12_byteOf_25 (by decide) (fun c_57 => ?_) (fun c_57 => ?_)
        · skip
          refine lv_iload G.1 G.2.1 dX12_byteOf_32 (lv_at hl 5 rfl) ?_
          refine lv_bipush (v := 16) G.1 G.2.1 dX12_byteOf_34 (by decide) ?_
          refine lv_icmp_ge (tgt := 43) G.1 G.2.1 dX12_byteOf_36 (by decide) (fun c_58 => ?_) (fun c_58 => ?_)
          · skip
            exact absurd c_58 (by decide)
          · skip
            refine lv_iload_n G.1 G.2.1 dX12_byteOf_39 rfl (lv_at hl 3 rfl) ?_
            refine lv_goto (tgt := 45) G.1 G.2.1 dX12_byteOf_40 (by decide) ?_
            refine lv_istore (lv' := [(6, .int d), (0, .int a), (1, .int b), (2, .int q), (3, .int d), (4, .int v), (5, .int 13)]) G.1 G.2.1 dX12_byteOf_45 hl (by decide) rfl (fun ls hl => ?_)
            refine lv_iload G.1 G.2.1 dX12_byteOf_47 (lv_at hl 0 rfl) ?_
            refine lv_bipush (v := 24) G.1 G.2.1 dX12_byteOf_49 (by decide) ?_
            refine lv_bipush (v := 8) G.1 G.2.1 dX12_byteOf_51 (by decide) ?_
            refine lv_iload G.1 G.2.1 dX12_byteOf_53 (lv_at hl 6 rfl) ?_
            refine lv_iconst (v := 4) G.1 G.2.1 dX12_byteOf_55 (by decide) ?_
            refine lv_irem G.1 G.2.1 dX12_byteOf_56 (by decide) ?_
            rw [show 13 - 13 / 4 * 4 = (1 : Int32) by decide]
            refine lv_imul G.1 G.2.1 dX12_byteOf_57 ?_
            rw [show 8 * 1 = (8 : Int32) by decide]
            refine lv_isub G.1 G.2.1 dX12_byteOf_58 ?_
            rw [show 24 - 8 = (16 : Int32) by decide]
            refine lv_ishr G.1 G.2.1 dX12_byteOf_59 ?_
            refine lv_topi (fun x_59 ex_59 => ?_)
            refine lv_sipush (v := 255) G.1 G.2.1 dX12_byteOf_60 (by decide) ?_
            refine lv_iand G.1 G.2.1 dX12_byteOf_63 ?_
            refine lv_topi (fun x_60 ex_60 => ?_)
            exact py_iret G hr rfl hlk hw ⟨by rw [ex_60, ex_59]; exact fd_bit d 16 (by decide), rfl, rfl⟩ dX12_byteOf_64
        · skip
          exact absurd c_57 (by decide)
      · skip
        exact absurd c_56 (by decide)
    · skip
      exact absurd c_55 (by decide)
  · subst hk
    have hl : lv_has ls 7 [(0, .int a), (1, .int b), (2, .int q), (3, .int d), (4, .int v), (5, .int 14)] := hl
    refine lv_iload G.1 G.2.1 dX12_byteOf_0 (lv_at hl 5 rfl) ?_
    refine lv_iconst (v := 4) G.1 G.2.1 dX12_byteOf_2 (by decide) ?_
    refine lv_icmp_ge (tgt := 10) G.1 G.2.1 dX12_byteOf_3 (by decide) (fun c_61 => ?_) (fun c_61 => ?_)
    · skip
      refine lv_iload G.1 G.2.1 dX12_byteOf_10 (lv_at hl 5 rfl) ?_
      refine lv_bipush (v := 8) G.1 G.2.1 dX12_byteOf_12 (by decide) ?_
      refine lv_icmp_ge (tgt := 21) G.1 G.2.1 dX12_byteOf_14 (by decide) (fun c_62 => ?_) (fun c_62 => ?_)
      · skip
        refine lv_iload G.1 G.2.1 dX12_byteOf_21 (lv_at hl 5 rfl) ?_
        refine lv_bipush (v := 12) G.1 G.2.1 dX12_byteOf_23 (by decide) ?_
        refine lv_icmp_ge (tgt := 32) G.1 G.2.1 dX12_byteOf_25 (by decide) (fun c_63 => ?_) (fun c_63 => ?_)
        · skip
          refine lv_iload G.1 G.2.1 dX12_byteOf_32 (lv_at hl 5 rfl) ?_
          refine lv_bipush (v := 16) G.1 G.2.1 dX12_byteOf_34 (by decide) ?_
          refine lv_icmp_ge (tgt := 43) G.1 G.2.1 dX12_byteOf_36 (by decide) (fun c_64 => ?_) (fun c_64 => ?_)
          · skip
            exact absurd c_64 (by decide)
          · skip
            refine lv_iload_n G.1 G.2.1 dX12_byteOf_39 rfl (lv_at hl 3 rfl) ?_
            refine lv_goto (tgt := 45) G.1 G.2.1 dX12_byteOf_40 (by decide) ?_
            refine lv_istore (lv' := [(6, .int d), (0, .int a), (1, .int b), (2, .int q), (3, .int d), (4, .int v), (5, .int 14)]) G.1 G.2.1 dX12_byteOf_45 hl (by decide) rfl (fun ls hl => ?_)
            refine lv_iload G.1 G.2.1 dX12_byteOf_47 (lv_at hl 0 rfl) ?_
            refine lv_bipush (v := 24) G.1 G.2.1 dX12_byteOf_49 (by decide) ?_
            refine lv_bipush (v := 8) G.1 G.2.1 dX12_byteOf_51 (by decide) ?_
            refine lv_iload G.1 G.2.1 dX12_byteOf_53 (lv_at hl 6 rfl) ?_
            refine lv_iconst (v := 4) G.1 G.2.1 dX12_byteOf_55 (by decide) ?_
            refine lv_irem G.1 G.2.1 dX12_byteOf_56 (by decide) ?_
            rw [show 14 - 14 / 4 * 4 = (2 : Int32) by decide]
            refine lv_imul G.1 G.2.1 dX12_byteOf_57 ?_
            rw [show 8 * 2 = (16 : Int32) by decide]
            refine lv_isub G.1 G.2.1 dX12_byteOf_58 ?_
            rw [show 24 - 16 = (8 : Int32) by decide]
            refine lv_ishr G.1 G.2.1 dX12_byteOf_59 ?_
            refine lv_topi (fun x_65 ex_65 => ?_)
            refine lv_sipush (v := 255) G.1 G.2.1 dX12_byteOf_60 (by decide) ?_
            refine lv_iand G.1 G.2.1 dX12_byteOf_63 ?_
            refine lv_topi (fun x_66 ex_66 => ?_)
            exact py_iret G hr rfl hlk hw ⟨by rw [ex_66, ex_65]; exact fd_bit d 8 (by decide), rfl, rfl⟩ dX12_byteOf_64
        · skip
          exact absurd c_63 (by decide)
      · skip
        exact absurd c_62 (by decide)
    · skip
      exact absurd c_61 (by decide)
  · subst hk
    have hl : lv_has ls 7 [(0, .int a), (1, .int b), (2, .int q), (3, .int d), (4, .int v), (5, .int 15)] := hl
    refine lv_iload G.1 G.2.1 dX12_byteOf_0 (lv_at hl 5 rfl) ?_
    refine lv_iconst (v := 4) G.1 G.2.1 dX12_byteOf_2 (by decide) ?_
    refine lv_icmp_ge (tgt := 10) G.1 G.2.1 dX12_byteOf_3 (by decide) (fun c_67 => ?_) (fun c_67 => ?_)
    · skip
      refine lv_iload G.1 G.2.1 dX12_byteOf_10 (lv_at hl 5 rfl) ?_
      refine lv_bipush (v := 8) G.1 G.2.1 dX12_byteOf_12 (by decide) ?_
      refine lv_icmp_ge (tgt := 21) G.1 G.2.1 dX12_byteOf_14 (by decide) (fun c_68 => ?_) (fun c_68 => ?_)
      · skip
        refine lv_iload G.1 G.2.1 dX12_byteOf_21 (lv_at hl 5 rfl) ?_
        refine lv_bipush (v := 12) G.1 G.2.1 dX12_byteOf_23 (by decide) ?_
        refine lv_icmp_ge (tgt := 32) G.1 G.2.1 dX12_byteOf_25 (by decide) (fun c_69 => ?_) (fun c_69 => ?_)
        · skip
          refine lv_iload G.1 G.2.1 dX12_byteOf_32 (lv_at hl 5 rfl) ?_
          refine lv_bipush (v := 16) G.1 G.2.1 dX12_byteOf_34 (by decide) ?_
          refine lv_icmp_ge (tgt := 43) G.1 G.2.1 dX12_byteOf_36 (by decide) (fun c_70 => ?_) (fun c_70 => ?_)
          · skip
            exact absurd c_70 (by decide)
          · skip
            refine lv_iload_n G.1 G.2.1 dX12_byteOf_39 rfl (lv_at hl 3 rfl) ?_
            refine lv_goto (tgt := 45) G.1 G.2.1 dX12_byteOf_40 (by decide) ?_
            refine lv_istore (lv' := [(6, .int d), (0, .int a), (1, .int b), (2, .int q), (3, .int d), (4, .int v), (5, .int 15)]) G.1 G.2.1 dX12_byteOf_45 hl (by decide) rfl (fun ls hl => ?_)
            refine lv_iload G.1 G.2.1 dX12_byteOf_47 (lv_at hl 0 rfl) ?_
            refine lv_bipush (v := 24) G.1 G.2.1 dX12_byteOf_49 (by decide) ?_
            refine lv_bipush (v := 8) G.1 G.2.1 dX12_byteOf_51 (by decide) ?_
            refine lv_iload G.1 G.2.1 dX12_byteOf_53 (lv_at hl 6 rfl) ?_
            refine lv_iconst (v := 4) G.1 G.2.1 dX12_byteOf_55 (by decide) ?_
            refine lv_irem G.1 G.2.1 dX12_byteOf_56 (by decide) ?_
            rw [show 15 - 15 / 4 * 4 = (3 : Int32) by decide]
            refine lv_imul G.1 G.2.1 dX12_byteOf_57 ?_
            rw [show 8 * 3 = (24 : Int32) by decide]
            refine lv_isub G.1 G.2.1 dX12_byteOf_58 ?_
            rw [show 24 - 24 = (0 : Int32) by decide]
            refine lv_ishr G.1 G.2.1 dX12_byteOf_59 ?_
            refine lv_topi (fun x_71 ex_71 => ?_)
            refine lv_sipush (v := 255) G.1 G.2.1 dX12_byteOf_60 (by decide) ?_
            refine lv_iand G.1 G.2.1 dX12_byteOf_63 ?_
            refine lv_topi (fun x_72 ex_72 => ?_)
            exact py_iret G hr rfl hlk hw ⟨by rw [ex_72, ex_71]; exact fd_bit d 0 (by decide), rfl, rfl⟩ dX12_byteOf_64
        · skip
          exact absurd c_69 (by decide)
      · skip
        exact absurd c_68 (by decide)
    · skip
      exact absurd c_67 (by decide)
  · subst hk
    have hl : lv_has ls 7 [(0, .int a), (1, .int b), (2, .int q), (3, .int d), (4, .int v), (5, .int 16)] := hl
    refine lv_iload G.1 G.2.1 dX12_byteOf_0 (lv_at hl 5 rfl) ?_
    refine lv_iconst (v := 4) G.1 G.2.1 dX12_byteOf_2 (by decide) ?_
    refine lv_icmp_ge (tgt := 10) G.1 G.2.1 dX12_byteOf_3 (by decide) (fun c_73 => ?_) (fun c_73 => ?_)
    · skip
      refine lv_iload G.1 G.2.1 dX12_byteOf_10 (lv_at hl 5 rfl) ?_
      refine lv_bipush (v := 8) G.1 G.2.1 dX12_byteOf_12 (by decide) ?_
      refine lv_icmp_ge (tgt := 21) G.1 G.2.1 dX12_byteOf_14 (by decide) (fun c_74 => ?_) (fun c_74 => ?_)
      · skip
        refine lv_iload G.1 G.2.1 dX12_byteOf_21 (lv_at hl 5 rfl) ?_
        refine lv_bipush (v := 12) G.1 G.2.1 dX12_byteOf_23 (by decide) ?_
        refine lv_icmp_ge (tgt := 32) G.1 G.2.1 dX12_byteOf_25 (by decide) (fun c_75 => ?_) (fun c_75 => ?_)
        · skip
          refine lv_iload G.1 G.2.1 dX12_byteOf_32 (lv_at hl 5 rfl) ?_
          refine lv_bipush (v := 16) G.1 G.2.1 dX12_byteOf_34 (by decide) ?_
          refine lv_icmp_ge (tgt := 43) G.1 G.2.1 dX12_byteOf_36 (by decide) (fun c_76 => ?_) (fun c_76 => ?_)
          · skip
            refine lv_iload G.1 G.2.1 dX12_byteOf_43 (lv_at hl 4 rfl) ?_
            refine lv_istore (lv' := [(6, .int v), (0, .int a), (1, .int b), (2, .int q), (3, .int d), (4, .int v), (5, .int 16)]) G.1 G.2.1 dX12_byteOf_45 hl (by decide) rfl (fun ls hl => ?_)
            refine lv_iload G.1 G.2.1 dX12_byteOf_47 (lv_at hl 0 rfl) ?_
            refine lv_bipush (v := 24) G.1 G.2.1 dX12_byteOf_49 (by decide) ?_
            refine lv_bipush (v := 8) G.1 G.2.1 dX12_byteOf_51 (by decide) ?_
            refine lv_iload G.1 G.2.1 dX12_byteOf_53 (lv_at hl 6 rfl) ?_
            refine lv_iconst (v := 4) G.1 G.2.1 dX12_byteOf_55 (by decide) ?_
            refine lv_irem G.1 G.2.1 dX12_byteOf_56 (by decide) ?_
            rw [show 16 - 16 / 4 * 4 = (0 : Int32) by decide]
            refine lv_imul G.1 G.2.1 dX12_byteOf_57 ?_
            rw [show 8 * 0 = (0 : Int32) by decide]
            refine lv_isub G.1 G.2.1 dX12_byteOf_58 ?_
            rw [show 24 - 0 = (24 : Int32) by decide]
            refine lv_ishr G.1 G.2.1 dX12_byteOf_59 ?_
            refine lv_topi (fun x_77 ex_77 => ?_)
            refine lv_sipush (v := 255) G.1 G.2.1 dX12_byteOf_60 (by decide) ?_
            refine lv_iand G.1 G.2.1 dX12_byteOf_63 ?_
            refine lv_topi (fun x_78 ex_78 => ?_)
            exact py_iret G hr rfl hlk hw ⟨by rw [ex_78, ex_77]; exact fd_bit v 24 (by decide), rfl, rfl⟩ dX12_byteOf_64
          · skip
            exact absurd c_76 (by decide)
        · skip
          exact absurd c_75 (by decide)
      · skip
        exact absurd c_74 (by decide)
    · skip
      exact absurd c_73 (by decide)
  · subst hk
    have hl : lv_has ls 7 [(0, .int a), (1, .int b), (2, .int q), (3, .int d), (4, .int v), (5, .int 17)] := hl
    refine lv_iload G.1 G.2.1 dX12_byteOf_0 (lv_at hl 5 rfl) ?_
    refine lv_iconst (v := 4) G.1 G.2.1 dX12_byteOf_2 (by decide) ?_
    refine lv_icmp_ge (tgt := 10) G.1 G.2.1 dX12_byteOf_3 (by decide) (fun c_79 => ?_) (fun c_79 => ?_)
    · skip
      refine lv_iload G.1 G.2.1 dX12_byteOf_10 (lv_at hl 5 rfl) ?_
      refine lv_bipush (v := 8) G.1 G.2.1 dX12_byteOf_12 (by decide) ?_
      refine lv_icmp_ge (tgt := 21) G.1 G.2.1 dX12_byteOf_14 (by decide) (fun c_80 => ?_) (fun c_80 => ?_)
      · skip
        refine lv_iload G.1 G.2.1 dX12_byteOf_21 (lv_at hl 5 rfl) ?_
        refine lv_bipush (v := 12) G.1 G.2.1 dX12_byteOf_23 (by decide) ?_
        refine lv_icmp_ge (tgt := 32) G.1 G.2.1 dX12_byteOf_25 (by decide) (fun c_81 => ?_) (fun c_81 => ?_)
        · skip
          refine lv_iload G.1 G.2.1 dX12_byteOf_32 (lv_at hl 5 rfl) ?_
          refine lv_bipush (v := 16) G.1 G.2.1 dX12_byteOf_34 (by decide) ?_
          refine lv_icmp_ge (tgt := 43) G.1 G.2.1 dX12_byteOf_36 (by decide) (fun c_82 => ?_) (fun c_82 => ?_)
          · skip
            refine lv_iload G.1 G.2.1 dX12_byteOf_43 (lv_at hl 4 rfl) ?_
            refine lv_istore (lv' := [(6, .int v), (0, .int a), (1, .int b), (2, .int q), (3, .int d), (4, .int v), (5, .int 17)]) G.1 G.2.1 dX12_byteOf_45 hl (by decide) rfl (fun ls hl => ?_)
            refine lv_iload G.1 G.2.1 dX12_byteOf_47 (lv_at hl 0 rfl) ?_
            refine lv_bipush (v := 24) G.1 G.2.1 dX12_byteOf_49 (by decide) ?_
            refine lv_bipush (v := 8) G.1 G.2.1 dX12_byteOf_51 (by decide) ?_
            refine lv_iload G.1 G.2.1 dX12_byteOf_53 (lv_at hl 6 rfl) ?_
            refine lv_iconst (v := 4) G.1 G.2.1 dX12_byteOf_55 (by decide) ?_
            refine lv_irem G.1 G.2.1 dX12_byteOf_56 (by decide) ?_
            rw [show 17 - 17 / 4 * 4 = (1 : Int32) by decide]
            refine lv_imul G.1 G.2.1 dX12_byteOf_57 ?_
            rw [show 8 * 1 = (8 : Int32) by decide]
            refine lv_isub G.1 G.2.1 dX12_byteOf_58 ?_
            rw [show 24 - 8 = (16 : Int32) by decide]
            refine lv_ishr G.1 G.2.1 dX12_byteOf_59 ?_
            refine lv_topi (fun x_83 ex_83 => ?_)
            refine lv_sipush (v := 255) G.1 G.2.1 dX12_byteOf_60 (by decide) ?_
            refine lv_iand G.1 G.2.1 dX12_byteOf_63 ?_
            refine lv_topi (fun x_84 ex_84 => ?_)
            exact py_iret G hr rfl hlk hw ⟨by rw [ex_84, ex_83]; exact fd_bit v 16 (by decide), rfl, rfl⟩ dX12_byteOf_64
          · skip
            exact absurd c_82 (by decide)
        · skip
          exact absurd c_81 (by decide)
      · skip
        exact absurd c_80 (by decide)
    · skip
      exact absurd c_79 (by decide)
  · subst hk
    have hl : lv_has ls 7 [(0, .int a), (1, .int b), (2, .int q), (3, .int d), (4, .int v), (5, .int 18)] := hl
    refine lv_iload G.1 G.2.1 dX12_byteOf_0 (lv_at hl 5 rfl) ?_
    refine lv_iconst (v := 4) G.1 G.2.1 dX12_byteOf_2 (by decide) ?_
    refine lv_icmp_ge (tgt := 10) G.1 G.2.1 dX12_byteOf_3 (by decide) (fun c_85 => ?_) (fun c_85 => ?_)
    · skip
      refine lv_iload G.1 G.2.1 dX12_byteOf_10 (lv_at hl 5 rfl) ?_
      refine lv_bipush (v := 8) G.1 G.2.1 dX12_byteOf_12 (by decide) ?_
      refine lv_icmp_ge (tgt := 21) G.1 G.2.1 dX12_byteOf_14 (by decide) (fun c_86 => ?_) (fun c_86 => ?_)
      · skip
        refine lv_iload G.1 G.2.1 dX12_byteOf_21 (lv_at hl 5 rfl) ?_
        refine lv_bipush (v := 12) G.1 G.2.1 dX12_byteOf_23 (by decide) ?_
        refine lv_icmp_ge (tgt := 32) G.1 G.2.1 dX12_byteOf_25 (by decide) (fun c_87 => ?_) (fun c_87 => ?_)
        · skip
          refine lv_iload G.1 G.2.1 dX12_byteOf_32 (lv_at hl 5 rfl) ?_
          refine lv_bipush (v := 16) G.1 G.2.1 dX12_byteOf_34 (by decide) ?_
          refine lv_icmp_ge (tgt := 43) G.1 G.2.1 dX12_byteOf_36 (by decide) (fun c_88 => ?_) (fun c_88 => ?_)
          · skip
            refine lv_iload G.1 G.2.1 dX12_byteOf_43 (lv_at hl 4 rfl) ?_
            refine lv_istore (lv' := [(6, .int v), (0, .int a), (1, .int b), (2, .int q), (3, .int d), (4, .int v), (5, .int 18)]) G.1 G.2.1 dX12_byteOf_45 hl (by decide) rfl (fun ls hl => ?_)
            refine lv_iload G.1 G.2.1 dX12_byteOf_47 (lv_at hl 0 rfl) ?_
            refine lv_bipush (v := 24) G.1 G.2.1 dX12_byteOf_49 (by decide) ?_
            refine lv_bipush (v := 8) G.1 G.2.1 dX12_byteOf_51 (by decide) ?_
            refine lv_iload G.1 G.2.1 dX12_byteOf_53 (lv_at hl 6 rfl) ?_
            refine lv_iconst (v := 4) G.1 G.2.1 dX12_byteOf_55 (by decide) ?_
            refine lv_irem G.1 G.2.1 dX12_byteOf_56 (by decide) ?_
            rw [show 18 - 18 / 4 * 4 = (2 : Int32) by decide]
            refine lv_imul G.1 G.2.1 dX12_byteOf_57 ?_
            rw [show 8 * 2 = (16 : Int32) by decide]
            refine lv_isub G.1 G.2.1 dX12_byteOf_58 ?_
            rw [show 24 - 16 = (8 : Int32) by decide]
            refine lv_ishr G.1 G.2.1 dX12_byteOf_59 ?_
            refine lv_topi (fun x_89 ex_89 => ?_)
            refine lv_sipush (v := 255) G.1 G.2.1 dX12_byteOf_60 (by decide) ?_
            refine lv_iand G.1 G.2.1 dX12_byteOf_63 ?_
            refine lv_topi (fun x_90 ex_90 => ?_)
            exact py_iret G hr rfl hlk hw ⟨by rw [ex_90, ex_89]; exact fd_bit v 8 (by decide), rfl, rfl⟩ dX12_byteOf_64
          · skip
            exact absurd c_88 (by decide)
        · skip
          exact absurd c_87 (by decide)
      · skip
        exact absurd c_86 (by decide)
    · skip
      exact absurd c_85 (by decide)
  · subst hk
    have hl : lv_has ls 7 [(0, .int a), (1, .int b), (2, .int q), (3, .int d), (4, .int v), (5, .int 19)] := hl
    refine lv_iload G.1 G.2.1 dX12_byteOf_0 (lv_at hl 5 rfl) ?_
    refine lv_iconst (v := 4) G.1 G.2.1 dX12_byteOf_2 (by decide) ?_
    refine lv_icmp_ge (tgt := 10) G.1 G.2.1 dX12_byteOf_3 (by decide) (fun c_91 => ?_) (fun c_91 => ?_)
    · skip
      refine lv_iload G.1 G.2.1 dX12_byteOf_10 (lv_at hl 5 rfl) ?_
      refine lv_bipush (v := 8) G.1 G.2.1 dX12_byteOf_12 (by decide) ?_
      refine lv_icmp_ge (tgt := 21) G.1 G.2.1 dX12_byteOf_14 (by decide) (fun c_92 => ?_) (fun c_92 => ?_)
      · skip
        refine lv_iload G.1 G.2.1 dX12_byteOf_21 (lv_at hl 5 rfl) ?_
        refine lv_bipush (v := 12) G.1 G.2.1 dX12_byteOf_23 (by decide) ?_
        refine lv_icmp_ge (tgt := 32) G.1 G.2.1 dX12_byteOf_25 (by decide) (fun c_93 => ?_) (fun c_93 => ?_)
        · skip
          refine lv_iload G.1 G.2.1 dX12_byteOf_32 (lv_at hl 5 rfl) ?_
          refine lv_bipush (v := 16) G.1 G.2.1 dX12_byteOf_34 (by decide) ?_
          refine lv_icmp_ge (tgt := 43) G.1 G.2.1 dX12_byteOf_36 (by decide) (fun c_94 => ?_) (fun c_94 => ?_)
          · skip
            refine lv_iload G.1 G.2.1 dX12_byteOf_43 (lv_at hl 4 rfl) ?_
            refine lv_istore (lv' := [(6, .int v), (0, .int a), (1, .int b), (2, .int q), (3, .int d), (4, .int v), (5, .int 19)]) G.1 G.2.1 dX12_byteOf_45 hl (by decide) rfl (fun ls hl => ?_)
            refine lv_iload G.1 G.2.1 dX12_byteOf_47 (lv_at hl 0 rfl) ?_
            refine lv_bipush (v := 24) G.1 G.2.1 dX12_byteOf_49 (by decide) ?_
            refine lv_bipush (v := 8) G.1 G.2.1 dX12_byteOf_51 (by decide) ?_
            refine lv_iload G.1 G.2.1 dX12_byteOf_53 (lv_at hl 6 rfl) ?_
            refine lv_iconst (v := 4) G.1 G.2.1 dX12_byteOf_55 (by decide) ?_
            refine lv_irem G.1 G.2.1 dX12_byteOf_56 (by decide) ?_
            rw [show 19 - 19 / 4 * 4 = (3 : Int32) by decide]
            refine lv_imul G.1 G.2.1 dX12_byteOf_57 ?_
            rw [show 8 * 3 = (24 : Int32) by decide]
            refine lv_isub G.1 G.2.1 dX12_byteOf_58 ?_
            rw [show 24 - 24 = (0 : Int32) by decide]
            refine lv_ishr G.1 G.2.1 dX12_byteOf_59 ?_
            refine lv_topi (fun x_95 ex_95 => ?_)
            refine lv_sipush (v := 255) G.1 G.2.1 dX12_byteOf_60 (by decide) ?_
            refine lv_iand G.1 G.2.1 dX12_byteOf_63 ?_
            refine lv_topi (fun x_96 ex_96 => ?_)
            exact py_iret G hr rfl hlk hw ⟨by rw [ex_96, ex_95]; exact fd_bit v 0 (by decide), rfl, rfl⟩ dX12_byteOf_64
          · skip
            exact absurd c_94 (by decide)
        · skip
          exact absurd c_93 (by decide)
      · skip
        exact absurd c_92 (by decide)
    · skip
      exact absurd c_91 (by decide)

def w_X12_feed : List Cond := .code yX12_feed cX12_feed 9 (some .int) :: ([Cond.fieldLink RX12 124 "HeadYearModel" "size" "I", Cond.methodLink RX12 120 yX12_byteOf, Cond.static yX12_byteOf, Cond.initialized RX12, Cond.fieldLink RX12 9 "HeadYearModel" "tape" "[I"] ++ (u_ws RX12 TX12 54 ++ (w_X12_byteOf ++ ([]))))
theorem in_X12_feed_X12 : ∀ w ∈ u_ws RX12 TX12 54, w ∈ w_X12_feed := fun _ h => List.mem_cons_of_mem _ (List.mem_append_right _ (List.mem_append_left _ h))
theorem gg_X12_feed_X12_byteOf : GoodIn w_X12_feed w_X12_byteOf := goodIn_sub (fun _ h => List.mem_cons_of_mem _ (List.mem_append_right _ (List.mem_append_right _ (List.mem_append_left _ h)))) (by decide +kernel)
theorem g_X12_feed_X12_byteOf_120 : GoodIn w_X12_feed (va_wsS RX12 120 yX12_byteOf w_X12_byteOf) := goodIn_app (goodIn_of _ (by decide +kernel)) gg_X12_feed_X12_byteOf
set_option maxHeartbeats 4000000 in
set_option maxRecDepth 100000 in
theorem c_X12_feed (l : Launch) (E : py_E) (L : List Nat) (f : py_F) (sz : Nat) (h : Nat) (a : Int32) (b : Int32) (q : Int32) (d : Int32) (v : Int32) (hM : fr_M E L f h) : Met l yX12_feed w_X12_feed ({ frames := 1, cells := 0, slots := 0, locals := 26 }) (py_Pc E [.ref h, .int a, .int b, .int q, .int d, .int v] L f sz) (py_Qi E L f sz (fun r _ _ => r = nI (fd_n a + fd_n b + fd_n q + fd_n d + fd_n v))) 0 0 (va_A (va_pl L f) sz) := by
  refine Met.ofW (cc := cX12_feed) (maxL := 9) (ret := (some .int)) (by decide) rfl ?_
  intro p e s m args below meth c s₁ B hml hv
  obtain ⟨rfl, rfl, hw⟩ := py_start hv
  have G : CallFix p m c cX12_feed 9 s _ w_X12_feed RX12 := ⟨B.exec, B.bytes, hml, findClass_of_methodNamed B.named, atoms_spec (ws := w_X12_feed) B.pre⟩
  have hr := B.returns
  have hlk := B.notSynchronized
  have hl := lv_entry ([.ref h, .int a, .int b, .int q, .int d, .int v]) (n := 9) (Nat.le_of_ble_eq_true rfl)
  rw [lg_entry_eq]
  generalize (lg_sl ([.ref h, .int a, .int b, .int q, .int d, .int v]) ++ List.replicate (9 - (lg_sl ([.ref h, .int a, .int b, .int q, .int d, .int v])).length) Slot.unset).toArray = ls at hl ⊢
  have hl : lv_has ls 9 [(0, .ref h), (1, .int a), (2, .int b), (3, .int q), (4, .int d), (5, .int v)] := hl
  obtain ⟨tp, cd, cl, g1, g2, g3, xs, v32, v33, v34, hh, hxs, hp1, hp2, hp8, hp9, hp13, hp24, hp25, hp29, hp31, hp43, hp53, ⟨hp32, hp33, hp34⟩, htp, hcd, hcl⟩ := id hM
  have rest2 : ∀ (f1 : py_F) (xs1 : List Value) (H : Heap) (locs : List Loc) (ls : Array Slot), py_W E (va_A (va_pl L f) s.heap.size) s L f1 H locs → py_at L f1 h (.inr (12, xs1)) → xs1[2]? = some (.int (nI (fd_cnt a b q d v 20))) → lv_has ls 9 [(0, .ref h)] → W p l e (headSpec w_X12_feed ({ frames := 1, cells := 0, slots := 0, locals := 26 })).room s m ([.ref h, .int a, .int b, .int q, .int d, .int v] : List Value).toArray below meth c H locs 0 0 (MQ below (py_Qi E L f s.heap.size (fun r _ _ => r = nI (fd_n a + fd_n b + fd_n q + fd_n d + fd_n v))) ([.ref h, .int a, .int b, .int q, .int d, .int v] : List Value).toArray s 0 0 (va_A (va_pl L f) s.heap.size)) (F0 m 115 ls []) := by
    intro f1 xs1 H locs ls hw h1r h1s hl
    refine lv_aload_n G.1 G.2.1 dX12_feed_115 rfl (lv_at hl 0 rfl) ?_
    refine py_get (C := RX12) (T := TX12) (N := 54) (k := 2) (v := .int (nI (fd_cnt a b q d v 20))) G hw in_X12_feed_X12 rfl h1r (by decide) (by decide +kernel) h1s dX12_feed_116 ?_
    exact py_iret G hr rfl hlk hw (by rw [fd_all]) dX12_feed_119
  have loop2 : ∀ (n j : Nat), j ≤ 20 → 20 ≤ j + n → ∀ (f1 : py_F) (xs1 : List Value) (g0 : Nat → Int32) (H : Heap) (locs : List Loc) (ls : Array Slot), py_W E (va_A (va_pl L f) s.heap.size) s L f1 H locs → py_at L f1 h (.inr (12, xs1)) → xs1.length = 54 → xs1[1]? = some (.ref tp) → xs1[2]? = some (.int (nI (fd_cnt a b q d v j))) → py_at L f1 tp (.inl (E.2.1, 160, .inl g0)) → lv_has ls 9 [(7, .int (nI j)), (0, .ref h), (1, .int a), (2, .int b), (3, .int q), (4, .int d), (5, .int v)] → W p l e (headSpec w_X12_feed ({ frames := 1, cells := 0, slots := 0, locals := 26 })).room s m ([.ref h, .int a, .int b, .int q, .int d, .int v] : List Value).toArray below meth c H locs 0 0 (MQ below (py_Qi E L f s.heap.size (fun r _ _ => r = nI (fd_n a + fd_n b + fd_n q + fd_n d + fd_n v))) ([.ref h, .int a, .int b, .int q, .int d, .int v] : List Value).toArray s 0 0 (va_A (va_pl L f) s.heap.size)) (F0 m 62 ls []) := by
    intro n
    induction n with
    | zero =>
      intro j hj1 hj2 f1 xs1 g0 H locs ls hw h1r h1l h1t h1s h1a hl
      refine lv_iload G.1 G.2.1 dX12_feed_62 (lv_at hl 0 rfl) ?_
      refine lv_bipush (v := 20) G.1 G.2.1 dX12_feed_64 (by decide) ?_
      refine lv_icmp_ge (tgt := 115) G.1 G.2.1 dX12_feed_66 (by decide) (fun c_1 => ?_) (fun c_1 => ?_)
      · skip
        have ej : j = 20 := by
          rcases Nat.lt_or_ge j 20 with z | z
          · exact absurd c_1 (nI_ge z (by decide))
          · omega
        subst ej
        exact rest2 f1 _ _ _ ls hw h1r h1s (lv_sub hl [1] rfl)
      · skip
        exact absurd (nI_le (show 20 ≤ j by omega) (by omega)) c_1
    | succ n ih =>
      intro j hj1 hj2 f1 xs1 g0 H locs ls hw h1r h1l h1t h1s h1a hl
      refine lv_iload G.1 G.2.1 dX12_feed_62 (lv_at hl 0 rfl) ?_
      refine lv_bipush (v := 20) G.1 G.2.1 dX12_feed_64 (by decide) ?_
      refine lv_icmp_ge (tgt := 115) G.1 G.2.1 dX12_feed_66 (by decide) (fun c_2 => ?_) (fun c_2 => ?_)
      · skip
        have ej : j = 20 := by
          rcases Nat.lt_or_ge j 20 with z | z
          · exact absurd c_2 (nI_ge z (by decide))
          · omega
        subst ej
        exact rest2 f1 _ _ _ ls hw h1r h1s (lv_sub hl [1] rfl)
      · skip
        have hj : j < 20 := by
          rcases Nat.lt_or_ge j 20 with z | z
          · exact z
          · exact absurd (nI_le z (by omega)) c_2
        refine lv_iload_n G.1 G.2.1 dX12_feed_69 rfl (lv_at hl 2 rfl) ?_
        refine lv_iload_n G.1 G.2.1 dX12_feed_70 rfl (lv_at hl 3 rfl) ?_
        refine lv_iload_n G.1 G.2.1 dX12_feed_71 rfl (lv_at hl 4 rfl) ?_
        refine lv_iload G.1 G.2.1 dX12_feed_72 (lv_at hl 5 rfl) ?_
        refine lv_iload G.1 G.2.1 dX12_feed_74 (lv_at hl 6 rfl) ?_
        refine lv_iload G.1 G.2.1 dX12_feed_76 (lv_at hl 0 rfl) ?_
        refine py_calli hw (va_runS (As := [.int a, .int b, .int q, .int d, .int v, .int (nI j)]) (rest := []) G (c_X12_byteOf l E L f1 H.size a b q d v (nI j) j hj rfl) (va_cwS 6 G.2.2.2.2 g_X12_feed_X12_byteOf_120 rfl rfl rfl (by decide +kernel) ⟨(Nat.le_of_ble_eq_true rfl), (Nat.le_of_ble_eq_true rfl)⟩) (py_preS hw) rfl rfl hl.1 rfl (lv_room (Nat.le_of_ble_eq_true rfl)) dX12_feed_78 ⟨(Nat.le_of_ble_eq_true rfl), (Nat.le_of_ble_eq_true rfl)⟩) (fun r_7 L_3 f_4 H_5 locs hp_6 hw => ?_)
        obtain ⟨rfl, rfl, rfl⟩ := hp_6
        refine lv_istore (lv' := [(8, .int (fd_w a b q d v j)), (7, .int (nI j)), (0, .ref h), (1, .int a), (2, .int b), (3, .int q), (4, .int d), (5, .int v)]) G.1 G.2.1 dX12_feed_81 hl (by decide) rfl (fun ls hl => ?_)
        refine lv_iload G.1 G.2.1 dX12_feed_83 (lv_at hl 0 rfl) ?_
        refine lv_if_eq (tgt := 109) G.1 G.2.1 dX12_feed_85 (by decide) (fun c_8 => ?_) (fun c_8 => ?_)
        · skip
          refine lv_iinc (v := (nI (j + 1))) (lv' := [(7, .int (nI (j + 1))), (8, .int (fd_w a b q d v j)), (0, .ref h), (1, .int a), (2, .int b), (3, .int q), (4, .int d), (5, .int v)]) G.1 G.2.1 dX12_feed_109 hl (k := 1) rfl (show _ + (1 : Int32) = _ from nI_1 _) (by decide) rfl (fun ls hl => ?_)
          refine lv_goto (tgt := 62) G.1 G.2.1 dX12_feed_112 (by decide) ?_
          have ec : fd_cnt a b q d v (j + 1) = fd_cnt a b q d v j + 0 := by show _ + _ = _; rw [fd_c0 c_8]
          exact ih (j + 1) hj (by omega) f1 _ _ _ _ ls hw h1r h1l h1t (by rw [ec]; exact h1s) h1a (lv_sub hl [0, 2, 3, 4, 5, 6, 7] rfl)
        · skip
          refine lv_aload_n G.1 G.2.1 dX12_feed_88 rfl (lv_at hl 2 rfl) ?_
          refine py_get (C := RX12) (T := TX12) (N := 54) (k := 1) (v := .ref tp) G hw in_X12_feed_X12 rfl h1r (by decide) (by decide +kernel) h1t dX12_feed_89 ?_
          refine lv_aload_n G.1 G.2.1 dX12_feed_92 rfl (lv_at hl 2 rfl) ?_
          refine py_get (C := RX12) (T := TX12) (N := 54) (k := 2) (v := .int (nI (fd_cnt a b q d v j))) G hw in_X12_feed_X12 rfl h1r (by decide) (by decide +kernel) h1s dX12_feed_93 ?_
          refine lv_iload G.1 G.2.1 dX12_feed_96 (lv_at hl 0 rfl) ?_
          refine py_iast G hw h1a (vp_in_nI (by have z := fd_cle a b q d v j; omega) (by decide)) dX12_feed_98 (fun f_9 H_10 locs h_11 x_12 hw => ?_)
          generalize upd g0 _ _ = g_13 at h_11
          have h1r := h1r.ext x_12 (py_ne_arr h1r h1a)
          refine lv_aload_n G.1 G.2.1 dX12_feed_99 rfl (lv_at hl 2 rfl) ?_
          refine lv_dup G.1 G.2.1 dX12_feed_100 rfl ?_
          refine py_get (C := RX12) (T := TX12) (N := 54) (k := 2) (v := .int (nI (fd_cnt a b q d v j))) G hw in_X12_feed_X12 rfl h1r (by decide) (by decide +kernel) h1s dX12_feed_101 ?_
          refine lv_iconst (v := 1) G.1 G.2.1 dX12_feed_104 (by decide) ?_
          refine lv_iadd G.1 G.2.1 dX12_feed_105 ?_
          rw [nI_1]
          refine py_put (C := RX12) (T := TX12) (N := 54) (k := 2) (v := .int (nI ((fd_cnt a b q d v j) + 1))) (fs' := xs1.set 2 (.int (nI ((fd_cnt a b q d v j) + 1)))) (ty0 := tyX12) G hw tyX12_ok nmX12 in_X12_feed_X12 rfl h1r (by decide) (by decide +kernel) rfl rfl rfl rfl (py_len h1l (by decide)) rfl dX12_feed_106 (fun f_14 H_15 locs h_16 x_17 hw => ?_)
          obtain ⟨xs_18, exs_18⟩ : ∃ y, y = xs1.set 2 (.int (nI ((fd_cnt a b q d v j) + 1))) := ⟨_, rfl⟩
          rw [← exs_18] at h_16
          have hl_19 : xs_18.length = 54 := by rw [exs_18, List.length_set]; exact h1l
          have hp_20 : xs_18[1]? = some (.ref tp) := by rw [exs_18, List.getElem?_set_ne (by decide)]; exact h1t
          have hp_21 : xs_18[2]? = some (.int (nI ((fd_cnt a b q d v j) + 1))) := by rw [exs_18, List.getElem?_set_self (by rw [h1l]; decide)]
          have h_11 := h_11.ext x_17 (Ne.symm (py_ne_arr h1r h_11))
          refine lv_iinc (v := (nI (j + 1))) (lv' := [(7, .int (nI (j + 1))), (8, .int (fd_w a b q d v j)), (0, .ref h), (1, .int a), (2, .int b), (3, .int q), (4, .int d), (5, .int v)]) G.1 G.2.1 dX12_feed_109 hl (k := 1) rfl (show _ + (1 : Int32) = _ from nI_1 _) (by decide) rfl (fun ls hl => ?_)
          refine lv_goto (tgt := 62) G.1 G.2.1 dX12_feed_112 (by decide) ?_
          have ec : fd_cnt a b q d v (j + 1) = fd_cnt a b q d v j + 1 := by show _ + _ = _; rw [fd_c1 c_8]
          exact ih (j + 1) hj (by omega) f_14 _ _ _ _ ls hw h_16 hl_19 hp_20 (by rw [ec]; exact hp_21) h_11 (lv_sub hl [0, 2, 3, 4, 5, 6, 7] rfl)
  have rest1 : ∀ (H : Heap) (locs : List Loc) (ls : Array Slot), py_W E (va_A (va_pl L f) s.heap.size) s L f H locs → lv_has ls 9 [(6, .int (nI (fd_cnt a b q d v 20))), (0, .ref h), (1, .int a), (2, .int b), (3, .int q), (4, .int d), (5, .int v)] → W p l e (headSpec w_X12_feed ({ frames := 1, cells := 0, slots := 0, locals := 26 })).room s m ([.ref h, .int a, .int b, .int q, .int d, .int v] : List Value).toArray below meth c H locs 0 0 (MQ below (py_Qi E L f s.heap.size (fun r _ _ => r = nI (fd_n a + fd_n b + fd_n q + fd_n d + fd_n v))) ([.ref h, .int a, .int b, .int q, .int d, .int v] : List Value).toArray s 0 0 (va_A (va_pl L f) s.heap.size)) (F0 m 44 ls []) := by
    intro H locs ls hw hl
    refine lv_aload_n G.1 G.2.1 dX12_feed_44 rfl (lv_at hl 1 rfl) ?_
    refine py_get (C := RX12) (T := TX12) (N := 54) (k := 2) (v := .int (nI 0)) G hw in_X12_feed_X12 rfl hh (by decide) (by decide +kernel) hp2 dX12_feed_45 ?_
    refine lv_iload G.1 G.2.1 dX12_feed_48 (lv_at hl 0 rfl) ?_
    refine lv_iadd G.1 G.2.1 dX12_feed_50 ?_
    rw [nI_add]
    refine lv_sipush (v := 160) G.1 G.2.1 dX12_feed_51 (by decide) ?_
    refine lv_icmp_le (tgt := 59) G.1 G.2.1 dX12_feed_54 (by decide) (fun c_22 => ?_) (fun c_22 => ?_)
    · skip
      refine lv_iconst (v := 0) G.1 G.2.1 dX12_feed_59 (by decide) ?_
      refine lv_istore (lv' := [(7, .int 0), (6, .int (nI (fd_cnt a b q d v 20))), (0, .ref h), (1, .int a), (2, .int b), (3, .int q), (4, .int d), (5, .int v)]) G.1 G.2.1 dX12_feed_60 hl (by decide) rfl (fun ls hl => ?_)
      exact loop2 20 0 (by decide) (by decide) f xs g1 _ _ ls hw hh hxs hp1 hp2 htp (lv_sub hl [0, 2, 3, 4, 5, 6, 7] rfl)
    · skip
      exact absurd (nI_le (a := 0 + fd_cnt a b q d v 20) (b := 160) (by have z := fd_cle a b q d v 20; omega) (by decide)) c_22
  have loop1 : ∀ (n j : Nat), j ≤ 20 → 20 ≤ j + n → ∀ (H : Heap) (locs : List Loc) (ls : Array Slot), py_W E (va_A (va_pl L f) s.heap.size) s L f H locs → lv_has ls 9 [(7, .int (nI j)), (6, .int (nI (fd_cnt a b q d v j))), (0, .ref h), (1, .int a), (2, .int b), (3, .int q), (4, .int d), (5, .int v)] → W p l e (headSpec w_X12_feed ({ frames := 1, cells := 0, slots := 0, locals := 26 })).room s m ([.ref h, .int a, .int b, .int q, .int d, .int v] : List Value).toArray below meth c H locs 0 0 (MQ below (py_Qi E L f s.heap.size (fun r _ _ => r = nI (fd_n a + fd_n b + fd_n q + fd_n d + fd_n v))) ([.ref h, .int a, .int b, .int q, .int d, .int v] : List Value).toArray s 0 0 (va_A (va_pl L f) s.heap.size)) (F0 m 6 ls []) := by
    intro n
    induction n with
    | zero =>
      intro j hj1 hj2 H locs ls hw hl
      refine lv_iload G.1 G.2.1 dX12_feed_6 (lv_at hl 0 rfl) ?_
      refine lv_bipush (v := 20) G.1 G.2.1 dX12_feed_8 (by decide) ?_
      refine lv_icmp_ge (tgt := 44) G.1 G.2.1 dX12_feed_10 (by decide) (fun c_23 => ?_) (fun c_23 => ?_)
      · skip
        have ej : j = 20 := by
          rcases Nat.lt_or_ge j 20 with z | z
          · exact absurd c_23 (nI_ge z (by decide))
          · omega
        subst ej
        exact rest1 _ _ ls hw (lv_sub hl [1, 2, 3, 4, 5, 6, 7] rfl)
      · skip
        exact absurd (nI_le (show 20 ≤ j by omega) (by omega)) c_23
    | succ n ih =>
      intro j hj1 hj2 H locs ls hw hl
      refine lv_iload G.1 G.2.1 dX12_feed_6 (lv_at hl 0 rfl) ?_
      refine lv_bipush (v := 20) G.1 G.2.1 dX12_feed_8 (by decide) ?_
      refine lv_icmp_ge (tgt := 44) G.1 G.2.1 dX12_feed_10 (by decide) (fun c_24 => ?_) (fun c_24 => ?_)
      · skip
        have ej : j = 20 := by
          rcases Nat.lt_or_ge j 20 with z | z
          · exact absurd c_24 (nI_ge z (by decide))
          · omega
        subst ej
        exact rest1 _ _ ls hw (lv_sub hl [1, 2, 3, 4, 5, 6, 7] rfl)
      · skip
        have hj : j < 20 := by
          rcases Nat.lt_or_ge j 20 with z | z
          · exact z
          · exact absurd (nI_le z (by omega)) c_24
        refine lv_iload G.1 G.2.1 dX12_feed_13 (lv_at hl 1 rfl) ?_
        refine lv_iload_n G.1 G.2.1 dX12_feed_15 rfl (lv_at hl 3 rfl) ?_
        refine lv_iload_n G.1 G.2.1 dX12_feed_16 rfl (lv_at hl 4 rfl) ?_
        refine lv_iload_n G.1 G.2.1 dX12_feed_17 rfl (lv_at hl 5 rfl) ?_
        refine lv_iload G.1 G.2.1 dX12_feed_18 (lv_at hl 6 rfl) ?_
        refine lv_iload G.1 G.2.1 dX12_feed_20 (lv_at hl 7 rfl) ?_
        refine lv_iload G.1 G.2.1 dX12_feed_22 (lv_at hl 0 rfl) ?_
        refine py_calli hw (va_runS (As := [.int a, .int b, .int q, .int d, .int v, .int (nI j)]) (rest := [.int (nI (fd_cnt a b q d v j))]) G (c_X12_byteOf l E L f H.size a b q d v (nI j) j hj rfl) (va_cwS 6 G.2.2.2.2 g_X12_feed_X12_byteOf_120 rfl rfl rfl (by decide +kernel) ⟨(Nat.le_of_ble_eq_true rfl), (Nat.le_of_ble_eq_true rfl)⟩) (py_preS hw) rfl rfl hl.1 rfl (lv_room (Nat.le_of_ble_eq_true rfl)) dX12_feed_24 ⟨(Nat.le_of_ble_eq_true rfl), (Nat.le_of_ble_eq_true rfl)⟩) (fun r_29 L_25 f_26 H_27 locs hp_28 hw => ?_)
        obtain ⟨rfl, rfl, rfl⟩ := hp_28
        refine lv_if_eq (tgt := 34) G.1 G.2.1 dX12_feed_27 (by decide) (fun c_30 => ?_) (fun c_30 => ?_)
        · skip
          refine lv_iconst (v := 0) G.1 G.2.1 dX12_feed_34 (by decide) ?_
          refine lv_iadd G.1 G.2.1 dX12_feed_35 ?_
          rw [Int32.add_zero]
          refine lv_istore (lv' := [(6, .int (nI (fd_cnt a b q d v j))), (7, .int (nI j)), (0, .ref h), (1, .int a), (2, .int b), (3, .int q), (4, .int d), (5, .int v)]) G.1 G.2.1 dX12_feed_36 hl (by decide) rfl (fun ls hl => ?_)
          refine lv_iinc (v := (nI (j + 1))) (lv' := [(7, .int (nI (j + 1))), (6, .int (nI (fd_cnt a b q d v j))), (0, .ref h), (1, .int a), (2, .int b), (3, .int q), (4, .int d), (5, .int v)]) G.1 G.2.1 dX12_feed_38 hl (k := 1) rfl (show _ + (1 : Int32) = _ from nI_1 _) (by decide) rfl (fun ls hl => ?_)
          refine lv_goto (tgt := 6) G.1 G.2.1 dX12_feed_41 (by decide) ?_
          have ec : fd_cnt a b q d v (j + 1) = fd_cnt a b q d v j + 0 := by show _ + _ = _; rw [fd_c0 c_30]
          have hl := lv_sub (l' := [(7, .int (nI (j + 1))), (6, .int (nI (fd_cnt a b q d v (j + 1)))), (0, .ref h), (1, .int a), (2, .int b), (3, .int q), (4, .int d), (5, .int v)]) hl [0, 1, 2, 3, 4, 5, 6, 7] (by rw [ec]; rfl)
          exact ih (j + 1) hj (by omega) _ _ ls hw hl
        · skip
          refine lv_iconst (v := 1) G.1 G.2.1 dX12_feed_30 (by decide) ?_
          refine lv_goto (tgt := 35) G.1 G.2.1 dX12_feed_31 (by decide) ?_
          refine lv_iadd G.1 G.2.1 dX12_feed_35 ?_
          rw [nI_1]
          refine lv_istore (lv' := [(6, .int (nI ((fd_cnt a b q d v j) + 1))), (7, .int (nI j)), (0, .ref h), (1, .int a), (2, .int b), (3, .int q), (4, .int d), (5, .int v)]) G.1 G.2.1 dX12_feed_36 hl (by decide) rfl (fun ls hl => ?_)
          refine lv_iinc (v := (nI (j + 1))) (lv' := [(7, .int (nI (j + 1))), (6, .int (nI ((fd_cnt a b q d v j) + 1))), (0, .ref h), (1, .int a), (2, .int b), (3, .int q), (4, .int d), (5, .int v)]) G.1 G.2.1 dX12_feed_38 hl (k := 1) rfl (show _ + (1 : Int32) = _ from nI_1 _) (by decide) rfl (fun ls hl => ?_)
          refine lv_goto (tgt := 6) G.1 G.2.1 dX12_feed_41 (by decide) ?_
          have ec : fd_cnt a b q d v (j + 1) = fd_cnt a b q d v j + 1 := by show _ + _ = _; rw [fd_c1 c_30]
          have hl := lv_sub (l' := [(7, .int (nI (j + 1))), (6, .int (nI (fd_cnt a b q d v (j + 1)))), (0, .ref h), (1, .int a), (2, .int b), (3, .int q), (4, .int d), (5, .int v)]) hl [0, 1, 2, 3, 4, 5, 6, 7] (by rw [ec]; rfl)
          exact ih (j + 1) hj (by omega) _ _ ls hw hl
  refine lv_iconst (v := 0) G.1 G.2.1 dX12_feed_0 (by decide) ?_
  refine lv_istore (lv' := [(6, .int 0), (0, .ref h), (1, .int a), (2, .int b), (3, .int q), (4, .int d), (5, .int v)]) G.1 G.2.1 dX12_feed_1 hl (by decide) rfl (fun ls hl => ?_)
  refine lv_iconst (v := 0) G.1 G.2.1 dX12_feed_3 (by decide) ?_
  refine lv_istore (lv' := [(7, .int 0), (6, .int 0), (0, .ref h), (1, .int a), (2, .int b), (3, .int q), (4, .int d), (5, .int v)]) G.1 G.2.1 dX12_feed_4 hl (by decide) rfl (fun ls hl => ?_)
  exact loop1 20 0 (by decide) (by decide) _ _ ls hw (lv_sub hl [0, 1, 2, 3, 4, 5, 6, 7] rfl)
