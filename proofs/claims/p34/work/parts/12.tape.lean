theorem dX8_append_0 : decode cX8_append 0 = .ok (.bipush 24, 2) := by decide +kernel
theorem dX8_append_2 : decode cX8_append 2 = .ok (.istore_n 2, 1) := by decide +kernel
theorem dX8_append_3 : decode cX8_append 3 = .ok (.iload_n 2, 1) := by decide +kernel
theorem dX8_append_4 : decode cX8_append 4 = .ok (.ifCond .lt 51, 3) := by decide +kernel
theorem dX8_append_7 : decode cX8_append 7 = .ok (.iload_n 1, 1) := by decide +kernel
theorem dX8_append_8 : decode cX8_append 8 = .ok (.iload_n 2, 1) := by decide +kernel
theorem dX8_append_9 : decode cX8_append 9 = .ok (.iushr, 1) := by decide +kernel
theorem dX8_append_10 : decode cX8_append 10 = .ok (.sipush 255, 3) := by decide +kernel
theorem dX8_append_13 : decode cX8_append 13 = .ok (.iand, 1) := by decide +kernel
theorem dX8_append_14 : decode cX8_append 14 = .ok (.istore_n 3, 1) := by decide +kernel
theorem dX8_append_15 : decode cX8_append 15 = .ok (.iload_n 3, 1) := by decide +kernel
theorem dX8_append_16 : decode cX8_append 16 = .ok (.ifCond .eq 33, 3) := by decide +kernel
theorem dX8_append_19 : decode cX8_append 19 = .ok (.aload_n 0, 1) := by decide +kernel
theorem dX8_append_20 : decode cX8_append 20 = .ok (.getfield 13, 3) := by decide +kernel
theorem dX8_append_23 : decode cX8_append 23 = .ok (.sipush 160, 3) := by decide +kernel
theorem dX8_append_26 : decode cX8_append 26 = .ok (.if_icmp .ge 23, 3) := by decide +kernel
theorem dX8_append_29 : decode cX8_append 29 = .ok (.aload_n 0, 1) := by decide +kernel
theorem dX8_append_30 : decode cX8_append 30 = .ok (.getfield 9, 3) := by decide +kernel
theorem dX8_append_33 : decode cX8_append 33 = .ok (.aload_n 0, 1) := by decide +kernel
theorem dX8_append_34 : decode cX8_append 34 = .ok (.getfield 13, 3) := by decide +kernel
theorem dX8_append_37 : decode cX8_append 37 = .ok (.iload_n 3, 1) := by decide +kernel
theorem dX8_append_38 : decode cX8_append 38 = .ok (.iastore, 1) := by decide +kernel
theorem dX8_append_39 : decode cX8_append 39 = .ok (.aload_n 0, 1) := by decide +kernel
theorem dX8_append_40 : decode cX8_append 40 = .ok (.dup, 1) := by decide +kernel
theorem dX8_append_41 : decode cX8_append 41 = .ok (.getfield 13, 3) := by decide +kernel
theorem dX8_append_44 : decode cX8_append 44 = .ok (.iconst 1, 1) := by decide +kernel
theorem dX8_append_45 : decode cX8_append 45 = .ok (.iadd, 1) := by decide +kernel
theorem dX8_append_46 : decode cX8_append 46 = .ok (.putfield 13, 3) := by decide +kernel
theorem dX8_append_49 : decode cX8_append 49 = .ok (.iinc 2 (-8), 3) := by decide +kernel
theorem dX8_append_52 : decode cX8_append 52 = .ok (.goto (-49), 3) := by decide +kernel
theorem dX8_append_55 : decode cX8_append 55 = .ok (.return_, 1) := by decide +kernel
theorem dX8_bytesOf_0 : decode cX8_bytesOf 0 = .ok (.iconst 0, 1) := by decide +kernel
theorem dX8_bytesOf_1 : decode cX8_bytesOf 1 = .ok (.istore_n 1, 1) := by decide +kernel
theorem dX8_bytesOf_2 : decode cX8_bytesOf 2 = .ok (.bipush 24, 2) := by decide +kernel
theorem dX8_bytesOf_4 : decode cX8_bytesOf 4 = .ok (.istore_n 2, 1) := by decide +kernel
theorem dX8_bytesOf_5 : decode cX8_bytesOf 5 = .ok (.iload_n 2, 1) := by decide +kernel
theorem dX8_bytesOf_6 : decode cX8_bytesOf 6 = .ok (.ifCond .lt 27, 3) := by decide +kernel
theorem dX8_bytesOf_9 : decode cX8_bytesOf 9 = .ok (.iload_n 1, 1) := by decide +kernel
theorem dX8_bytesOf_10 : decode cX8_bytesOf 10 = .ok (.iload_n 0, 1) := by decide +kernel
theorem dX8_bytesOf_11 : decode cX8_bytesOf 11 = .ok (.iload_n 2, 1) := by decide +kernel
theorem dX8_bytesOf_12 : decode cX8_bytesOf 12 = .ok (.iushr, 1) := by decide +kernel
theorem dX8_bytesOf_13 : decode cX8_bytesOf 13 = .ok (.sipush 255, 3) := by decide +kernel
theorem dX8_bytesOf_16 : decode cX8_bytesOf 16 = .ok (.iand, 1) := by decide +kernel
theorem dX8_bytesOf_17 : decode cX8_bytesOf 17 = .ok (.ifCond .eq 7, 3) := by decide +kernel
theorem dX8_bytesOf_20 : decode cX8_bytesOf 20 = .ok (.iconst 1, 1) := by decide +kernel
theorem dX8_bytesOf_21 : decode cX8_bytesOf 21 = .ok (.goto 4, 3) := by decide +kernel
theorem dX8_bytesOf_24 : decode cX8_bytesOf 24 = .ok (.iconst 0, 1) := by decide +kernel
theorem dX8_bytesOf_25 : decode cX8_bytesOf 25 = .ok (.iadd, 1) := by decide +kernel
theorem dX8_bytesOf_26 : decode cX8_bytesOf 26 = .ok (.istore_n 1, 1) := by decide +kernel
theorem dX8_bytesOf_27 : decode cX8_bytesOf 27 = .ok (.iinc 2 (-8), 3) := by decide +kernel
theorem dX8_bytesOf_30 : decode cX8_bytesOf 30 = .ok (.goto (-25), 3) := by decide +kernel
theorem dX8_bytesOf_33 : decode cX8_bytesOf 33 = .ok (.iload_n 1, 1) := by decide +kernel
theorem dX8_bytesOf_34 : decode cX8_bytesOf 34 = .ok (.ireturn, 1) := by decide +kernel
theorem dX8_isDigitHere_0 : decode cX8_isDigitHere 0 = .ok (.aload_n 0, 1) := by decide +kernel
theorem dX8_isDigitHere_1 : decode cX8_isDigitHere 1 = .ok (.getfield 17, 3) := by decide +kernel
theorem dX8_isDigitHere_4 : decode cX8_isDigitHere 4 = .ok (.aload_n 0, 1) := by decide +kernel
theorem dX8_isDigitHere_5 : decode cX8_isDigitHere 5 = .ok (.getfield 13, 3) := by decide +kernel
theorem dX8_isDigitHere_8 : decode cX8_isDigitHere 8 = .ok (.if_icmp .ge 35, 3) := by decide +kernel
theorem dX8_isDigitHere_11 : decode cX8_isDigitHere 11 = .ok (.aload_n 0, 1) := by decide +kernel
theorem dX8_isDigitHere_12 : decode cX8_isDigitHere 12 = .ok (.getfield 9, 3) := by decide +kernel
theorem dX8_isDigitHere_15 : decode cX8_isDigitHere 15 = .ok (.aload_n 0, 1) := by decide +kernel
theorem dX8_isDigitHere_16 : decode cX8_isDigitHere 16 = .ok (.getfield 17, 3) := by decide +kernel
theorem dX8_isDigitHere_19 : decode cX8_isDigitHere 19 = .ok (.iaload, 1) := by decide +kernel
theorem dX8_isDigitHere_20 : decode cX8_isDigitHere 20 = .ok (.bipush 48, 2) := by decide +kernel
theorem dX8_isDigitHere_22 : decode cX8_isDigitHere 22 = .ok (.if_icmp .lt 21, 3) := by decide +kernel
theorem dX8_isDigitHere_25 : decode cX8_isDigitHere 25 = .ok (.aload_n 0, 1) := by decide +kernel
theorem dX8_isDigitHere_26 : decode cX8_isDigitHere 26 = .ok (.getfield 9, 3) := by decide +kernel
theorem dX8_isDigitHere_29 : decode cX8_isDigitHere 29 = .ok (.aload_n 0, 1) := by decide +kernel
theorem dX8_isDigitHere_30 : decode cX8_isDigitHere 30 = .ok (.getfield 17, 3) := by decide +kernel
theorem dX8_isDigitHere_33 : decode cX8_isDigitHere 33 = .ok (.iaload, 1) := by decide +kernel
theorem dX8_isDigitHere_34 : decode cX8_isDigitHere 34 = .ok (.bipush 57, 2) := by decide +kernel
theorem dX8_isDigitHere_36 : decode cX8_isDigitHere 36 = .ok (.if_icmp .gt 7, 3) := by decide +kernel
theorem dX8_isDigitHere_39 : decode cX8_isDigitHere 39 = .ok (.iconst 1, 1) := by decide +kernel
theorem dX8_isDigitHere_40 : decode cX8_isDigitHere 40 = .ok (.goto 4, 3) := by decide +kernel
theorem dX8_isDigitHere_43 : decode cX8_isDigitHere 43 = .ok (.iconst 0, 1) := by decide +kernel
theorem dX8_isDigitHere_44 : decode cX8_isDigitHere 44 = .ok (.ireturn, 1) := by decide +kernel
theorem dX8_next_0 : decode cX8_next 0 = .ok (.aload_n 0, 1) := by decide +kernel
theorem dX8_next_1 : decode cX8_next 1 = .ok (.getfield 17, 3) := by decide +kernel
theorem dX8_next_4 : decode cX8_next 4 = .ok (.aload_n 0, 1) := by decide +kernel
theorem dX8_next_5 : decode cX8_next 5 = .ok (.getfield 13, 3) := by decide +kernel
theorem dX8_next_8 : decode cX8_next 8 = .ok (.if_icmp .ge 30, 3) := by decide +kernel
theorem dX8_next_11 : decode cX8_next 11 = .ok (.aload_n 0, 1) := by decide +kernel
theorem dX8_next_12 : decode cX8_next 12 = .ok (.getfield 9, 3) := by decide +kernel
theorem dX8_next_15 : decode cX8_next 15 = .ok (.aload_n 0, 1) := by decide +kernel
theorem dX8_next_16 : decode cX8_next 16 = .ok (.getfield 17, 3) := by decide +kernel
theorem dX8_next_19 : decode cX8_next 19 = .ok (.iaload, 1) := by decide +kernel
theorem dX8_next_20 : decode cX8_next 20 = .ok (.bipush 32, 2) := by decide +kernel
theorem dX8_next_22 : decode cX8_next 22 = .ok (.if_icmp .ne 16, 3) := by decide +kernel
theorem dX8_next_25 : decode cX8_next 25 = .ok (.aload_n 0, 1) := by decide +kernel
theorem dX8_next_26 : decode cX8_next 26 = .ok (.dup, 1) := by decide +kernel
theorem dX8_next_27 : decode cX8_next 27 = .ok (.getfield 17, 3) := by decide +kernel
theorem dX8_next_30 : decode cX8_next 30 = .ok (.iconst 1, 1) := by decide +kernel
theorem dX8_next_31 : decode cX8_next 31 = .ok (.iadd, 1) := by decide +kernel
theorem dX8_next_32 : decode cX8_next 32 = .ok (.putfield 17, 3) := by decide +kernel
theorem dX8_next_35 : decode cX8_next 35 = .ok (.goto (-35), 3) := by decide +kernel
theorem dX8_next_38 : decode cX8_next 38 = .ok (.aload_n 0, 1) := by decide +kernel
theorem dX8_next_39 : decode cX8_next 39 = .ok (.getfield 17, 3) := by decide +kernel
theorem dX8_next_42 : decode cX8_next 42 = .ok (.aload_n 0, 1) := by decide +kernel
theorem dX8_next_43 : decode cX8_next 43 = .ok (.getfield 13, 3) := by decide +kernel
theorem dX8_next_46 : decode cX8_next 46 = .ok (.if_icmp .ge 15, 3) := by decide +kernel
theorem dX8_next_49 : decode cX8_next 49 = .ok (.aload_n 0, 1) := by decide +kernel
theorem dX8_next_50 : decode cX8_next 50 = .ok (.getfield 9, 3) := by decide +kernel
theorem dX8_next_53 : decode cX8_next 53 = .ok (.aload_n 0, 1) := by decide +kernel
theorem dX8_next_54 : decode cX8_next 54 = .ok (.getfield 17, 3) := by decide +kernel
theorem dX8_next_57 : decode cX8_next 57 = .ok (.iaload, 1) := by decide +kernel
theorem dX8_next_58 : decode cX8_next 58 = .ok (.goto 4, 3) := by decide +kernel
theorem dX8_next_61 : decode cX8_next 61 = .ok (.iconst 0, 1) := by decide +kernel
theorem dX8_next_62 : decode cX8_next 62 = .ok (.ireturn, 1) := by decide +kernel
theorem dX8_take_0 : decode cX8_take 0 = .ok (.aload_n 0, 1) := by decide +kernel
theorem dX8_take_1 : decode cX8_take 1 = .ok (.invokevirtual 23, 3) := by decide +kernel
theorem dX8_take_4 : decode cX8_take 4 = .ok (.iload_n 1, 1) := by decide +kernel
theorem dX8_take_5 : decode cX8_take 5 = .ok (.if_icmp .eq 5, 3) := by decide +kernel
theorem dX8_take_8 : decode cX8_take 8 = .ok (.iconst 0, 1) := by decide +kernel
theorem dX8_take_9 : decode cX8_take 9 = .ok (.ireturn, 1) := by decide +kernel
theorem dX8_take_10 : decode cX8_take 10 = .ok (.aload_n 0, 1) := by decide +kernel
theorem dX8_take_11 : decode cX8_take 11 = .ok (.dup, 1) := by decide +kernel
theorem dX8_take_12 : decode cX8_take 12 = .ok (.getfield 17, 3) := by decide +kernel
theorem dX8_take_15 : decode cX8_take 15 = .ok (.iconst 1, 1) := by decide +kernel
theorem dX8_take_16 : decode cX8_take 16 = .ok (.iadd, 1) := by decide +kernel
theorem dX8_take_17 : decode cX8_take 17 = .ok (.putfield 17, 3) := by decide +kernel
theorem dX8_take_20 : decode cX8_take 20 = .ok (.iconst 1, 1) := by decide +kernel
theorem dX8_take_21 : decode cX8_take 21 = .ok (.ireturn, 1) := by decide +kernel
theorem dX8_takeNumber_0 : decode cX8_takeNumber 0 = .ok (.aload_n 0, 1) := by decide +kernel
theorem dX8_takeNumber_1 : decode cX8_takeNumber 1 = .ok (.invokevirtual 23, 3) := by decide +kernel
theorem dX8_takeNumber_4 : decode cX8_takeNumber 4 = .ok (.pop, 1) := by decide +kernel
theorem dX8_takeNumber_5 : decode cX8_takeNumber 5 = .ok (.aload_n 0, 1) := by decide +kernel
theorem dX8_takeNumber_6 : decode cX8_takeNumber 6 = .ok (.getfield 17, 3) := by decide +kernel
theorem dX8_takeNumber_9 : decode cX8_takeNumber 9 = .ok (.istore_n 2, 1) := by decide +kernel
theorem dX8_takeNumber_10 : decode cX8_takeNumber 10 = .ok (.aload_n 0, 1) := by decide +kernel
theorem dX8_takeNumber_11 : decode cX8_takeNumber 11 = .ok (.iconst 0, 1) := by decide +kernel
theorem dX8_takeNumber_12 : decode cX8_takeNumber 12 = .ok (.putfield 20, 3) := by decide +kernel
theorem dX8_takeNumber_15 : decode cX8_takeNumber 15 = .ok (.aload_n 0, 1) := by decide +kernel
theorem dX8_takeNumber_16 : decode cX8_takeNumber 16 = .ok (.getfield 17, 3) := by decide +kernel
theorem dX8_takeNumber_19 : decode cX8_takeNumber 19 = .ok (.iload_n 2, 1) := by decide +kernel
theorem dX8_takeNumber_20 : decode cX8_takeNumber 20 = .ok (.iload_n 1, 1) := by decide +kernel
theorem dX8_takeNumber_21 : decode cX8_takeNumber 21 = .ok (.iadd, 1) := by decide +kernel
theorem dX8_takeNumber_22 : decode cX8_takeNumber 22 = .ok (.if_icmp .ge 47, 3) := by decide +kernel
theorem dX8_takeNumber_25 : decode cX8_takeNumber 25 = .ok (.aload_n 0, 1) := by decide +kernel
theorem dX8_takeNumber_26 : decode cX8_takeNumber 26 = .ok (.invokevirtual 27, 3) := by decide +kernel
theorem dX8_takeNumber_29 : decode cX8_takeNumber 29 = .ok (.ifCond .eq 40, 3) := by decide +kernel
theorem dX8_takeNumber_32 : decode cX8_takeNumber 32 = .ok (.aload_n 0, 1) := by decide +kernel
theorem dX8_takeNumber_33 : decode cX8_takeNumber 33 = .ok (.aload_n 0, 1) := by decide +kernel
theorem dX8_takeNumber_34 : decode cX8_takeNumber 34 = .ok (.getfield 20, 3) := by decide +kernel
theorem dX8_takeNumber_37 : decode cX8_takeNumber 37 = .ok (.bipush 10, 2) := by decide +kernel
theorem dX8_takeNumber_39 : decode cX8_takeNumber 39 = .ok (.imul, 1) := by decide +kernel
theorem dX8_takeNumber_40 : decode cX8_takeNumber 40 = .ok (.aload_n 0, 1) := by decide +kernel
theorem dX8_takeNumber_41 : decode cX8_takeNumber 41 = .ok (.getfield 9, 3) := by decide +kernel
theorem dX8_takeNumber_44 : decode cX8_takeNumber 44 = .ok (.aload_n 0, 1) := by decide +kernel
theorem dX8_takeNumber_45 : decode cX8_takeNumber 45 = .ok (.getfield 17, 3) := by decide +kernel
theorem dX8_takeNumber_48 : decode cX8_takeNumber 48 = .ok (.iaload, 1) := by decide +kernel
theorem dX8_takeNumber_49 : decode cX8_takeNumber 49 = .ok (.iadd, 1) := by decide +kernel
theorem dX8_takeNumber_50 : decode cX8_takeNumber 50 = .ok (.bipush 48, 2) := by decide +kernel
theorem dX8_takeNumber_52 : decode cX8_takeNumber 52 = .ok (.isub, 1) := by decide +kernel
theorem dX8_takeNumber_53 : decode cX8_takeNumber 53 = .ok (.putfield 20, 3) := by decide +kernel
theorem dX8_takeNumber_56 : decode cX8_takeNumber 56 = .ok (.aload_n 0, 1) := by decide +kernel
theorem dX8_takeNumber_57 : decode cX8_takeNumber 57 = .ok (.dup, 1) := by decide +kernel
theorem dX8_takeNumber_58 : decode cX8_takeNumber 58 = .ok (.getfield 17, 3) := by decide +kernel
theorem dX8_takeNumber_61 : decode cX8_takeNumber 61 = .ok (.iconst 1, 1) := by decide +kernel
theorem dX8_takeNumber_62 : decode cX8_takeNumber 62 = .ok (.iadd, 1) := by decide +kernel
theorem dX8_takeNumber_63 : decode cX8_takeNumber 63 = .ok (.putfield 17, 3) := by decide +kernel
theorem dX8_takeNumber_66 : decode cX8_takeNumber 66 = .ok (.goto (-51), 3) := by decide +kernel
theorem dX8_takeNumber_69 : decode cX8_takeNumber 69 = .ok (.aload_n 0, 1) := by decide +kernel
theorem dX8_takeNumber_70 : decode cX8_takeNumber 70 = .ok (.getfield 17, 3) := by decide +kernel
theorem dX8_takeNumber_73 : decode cX8_takeNumber 73 = .ok (.iload_n 2, 1) := by decide +kernel
theorem dX8_takeNumber_74 : decode cX8_takeNumber 74 = .ok (.if_icmp .le 14, 3) := by decide +kernel
theorem dX8_takeNumber_77 : decode cX8_takeNumber 77 = .ok (.aload_n 0, 1) := by decide +kernel
theorem dX8_takeNumber_78 : decode cX8_takeNumber 78 = .ok (.invokevirtual 27, 3) := by decide +kernel
theorem dX8_takeNumber_81 : decode cX8_takeNumber 81 = .ok (.ifCond .ne 7, 3) := by decide +kernel
theorem dX8_takeNumber_84 : decode cX8_takeNumber 84 = .ok (.iconst 1, 1) := by decide +kernel
theorem dX8_takeNumber_85 : decode cX8_takeNumber 85 = .ok (.goto 4, 3) := by decide +kernel
theorem dX8_takeNumber_88 : decode cX8_takeNumber 88 = .ok (.iconst 0, 1) := by decide +kernel
theorem dX8_takeNumber_89 : decode cX8_takeNumber 89 = .ok (.ireturn, 1) := by decide +kernel
theorem dX8_takeNumberWithin_0 : decode cX8_takeNumberWithin 0 = .ok (.aload_n 0, 1) := by decide +kernel
theorem dX8_takeNumberWithin_1 : decode cX8_takeNumberWithin 1 = .ok (.iload_n 1, 1) := by decide +kernel
theorem dX8_takeNumberWithin_2 : decode cX8_takeNumberWithin 2 = .ok (.invokevirtual 31, 3) := by decide +kernel
theorem dX8_takeNumberWithin_5 : decode cX8_takeNumberWithin 5 = .ok (.ifCond .ne 5, 3) := by decide +kernel
theorem dX8_takeNumberWithin_8 : decode cX8_takeNumberWithin 8 = .ok (.iconst 0, 1) := by decide +kernel
theorem dX8_takeNumberWithin_9 : decode cX8_takeNumberWithin 9 = .ok (.ireturn, 1) := by decide +kernel
theorem dX8_takeNumberWithin_10 : decode cX8_takeNumberWithin 10 = .ok (.aload_n 0, 1) := by decide +kernel
theorem dX8_takeNumberWithin_11 : decode cX8_takeNumberWithin 11 = .ok (.getfield 20, 3) := by decide +kernel
theorem dX8_takeNumberWithin_14 : decode cX8_takeNumberWithin 14 = .ok (.iload_n 2, 1) := by decide +kernel
theorem dX8_takeNumberWithin_15 : decode cX8_takeNumberWithin 15 = .ok (.if_icmp .lt 11, 3) := by decide +kernel
theorem dX8_takeNumberWithin_18 : decode cX8_takeNumberWithin 18 = .ok (.aload_n 0, 1) := by decide +kernel
theorem dX8_takeNumberWithin_19 : decode cX8_takeNumberWithin 19 = .ok (.getfield 20, 3) := by decide +kernel
theorem dX8_takeNumberWithin_22 : decode cX8_takeNumberWithin 22 = .ok (.iload_n 3, 1) := by decide +kernel
theorem dX8_takeNumberWithin_23 : decode cX8_takeNumberWithin 23 = .ok (.if_icmp .le 15, 3) := by decide +kernel
theorem dX8_takeNumberWithin_26 : decode cX8_takeNumberWithin 26 = .ok (.aload_n 0, 1) := by decide +kernel
theorem dX8_takeNumberWithin_27 : decode cX8_takeNumberWithin 27 = .ok (.dup, 1) := by decide +kernel
theorem dX8_takeNumberWithin_28 : decode cX8_takeNumberWithin 28 = .ok (.getfield 17, 3) := by decide +kernel
theorem dX8_takeNumberWithin_31 : decode cX8_takeNumberWithin 31 = .ok (.iconst 1, 1) := by decide +kernel
theorem dX8_takeNumberWithin_32 : decode cX8_takeNumberWithin 32 = .ok (.isub, 1) := by decide +kernel
theorem dX8_takeNumberWithin_33 : decode cX8_takeNumberWithin 33 = .ok (.putfield 17, 3) := by decide +kernel
theorem dX8_takeNumberWithin_36 : decode cX8_takeNumberWithin 36 = .ok (.iconst 0, 1) := by decide +kernel
theorem dX8_takeNumberWithin_37 : decode cX8_takeNumberWithin 37 = .ok (.ireturn, 1) := by decide +kernel
theorem dX8_takeNumberWithin_38 : decode cX8_takeNumberWithin 38 = .ok (.iconst 1, 1) := by decide +kernel
theorem dX8_takeNumberWithin_39 : decode cX8_takeNumberWithin 39 = .ok (.ireturn, 1) := by decide +kernel
def w_X8_bytesOf : List Cond := .code yX8_bytesOf cX8_bytesOf 3 (some .int) :: ([] ++ ([]))
set_option maxHeartbeats 4000000 in
set_option maxRecDepth 100000 in
theorem c_X8_bytesOf (l : Launch) (E : py_E) (G : wf_G) (L : List Nat) (f : py_F) (sz : Nat) (a : Int32) (hG : GT G) (hWF : WF E G L f) : Met l yX8_bytesOf w_X8_bytesOf ({ frames := 0, cells := 0, slots := 0, locals := 0 }) (py_Pc E [.int a] L f sz) (py_Qi E L f sz (fun _ L1 f1 => L = L1 ∧ f = f1)) 0 0 (va_A (va_pl L f) sz) := by
  refine Met.ofW (cc := cX8_bytesOf) (maxL := 3) (ret := (some .int)) (by decide) rfl ?_
  intro p e s m args below meth c s₁ B hml hv
  obtain ⟨rfl, rfl, hw⟩ := py_start hv
  have G0 : CallFix p m c cX8_bytesOf 3 s _ w_X8_bytesOf RX8 := ⟨B.exec, B.bytes, hml, findClass_of_methodNamed B.named, atoms_spec (ws := w_X8_bytesOf) B.pre⟩
  have hr := B.returns
  have hlk := B.notSynchronized
  have kcm8 : (-8 : Int32).toInt = -8 := rfl
  have kcm1 : (-1 : Int32).toInt = -1 := rfl
  have kc0 : (0 : Int32).toInt = 0 := rfl
  have kc1 : (1 : Int32).toInt = 1 := rfl
  have kc24 : (24 : Int32).toInt = 24 := rfl
  have kc255 : (255 : Int32).toInt = 255 := rfl
  have hl := lv_entry ([.int a]) (n := 3) (Nat.le_of_ble_eq_true rfl)
  rw [lg_entry_eq]
  generalize (lg_sl ([.int a]) ++ List.replicate (3 - (lg_sl ([.int a])).length) Slot.unset).toArray = ls at hl ⊢
  have hl : lv_has ls 3 [(0, .int a)] := hl
  have hRP : RP E G f f := RP.refl
  refine lv_iconst (v := 0) G0.1 G0.2.1 dX8_bytesOf_0 (by decide) ?_
  refine lv_istore_n (lv' := [(1, .int 0), (0, .int a)]) G0.1 G0.2.1 dX8_bytesOf_1 rfl hl (by decide) rfl (fun ls hl => ?_)
  refine lv_bipush (v := 24) G0.1 G0.2.1 dX8_bytesOf_2 (by decide) ?_
  refine lv_istore_n (lv' := [(2, .int 24), (1, .int 0), (0, .int a)]) G0.1 G0.2.1 dX8_bytesOf_4 rfl hl (by decide) rfl (fun ls hl => ?_)
  have lo_5 : ∀ n_5 : Nat, ∀ (v_1 : Int32) (v_2 : Int32) (H_j5 : Heap) (locs : List Loc) (ls : Array Slot), (v_1.toInt + 1).toNat = n_5 → ((-2147483648) ≤ v_1.toInt ∧ v_1.toInt ≤ 24) → py_W E (va_A (va_pl L f) s.heap.size) s L f H_j5 locs → lv_has ls 3 [(2, .int v_1), (1, .int v_2), (0, .int a)] → W p l e (headSpec w_X8_bytesOf ({ frames := 0, cells := 0, slots := 0, locals := 0 })).room s m ([.int a] : List Value).toArray below meth c H_j5 locs 0 0 (MQ below (py_Qi E L f s.heap.size (fun _ L1 f1 => L = L1 ∧ f = f1)) ([.int a] : List Value).toArray s 0 0 (va_A (va_pl L f) s.heap.size)) (F0 m 5 ls []) := by
    intro n_5
    induction n_5 using Nat.strongRecOn with
    | _ n_5 ih_5 =>
      intro v_1 v_2 H_j5 locs ls hn_5 bv_1 hw hl
      refine lv_iload_n G0.1 G0.2.1 dX8_bytesOf_5 rfl (lv_at hl 0 rfl) ?_
      refine lv_if_lt (tgt := 33) G0.1 G0.2.1 dX8_bytesOf_6 (by decide) (fun c_3 => ?_) (fun c_3 => ?_)
      · skip
        have tc_3 := ti_lt c_3
        refine lv_iload_n G0.1 G0.2.1 dX8_bytesOf_33 rfl (lv_at hl 1 rfl) ?_
        exact py_iret G0 hr rfl hlk hw ⟨rfl, rfl⟩ dX8_bytesOf_34
      · skip
        have tc_3 := ti_nlt c_3
        refine lv_iload_n G0.1 G0.2.1 dX8_bytesOf_9 rfl (lv_at hl 1 rfl) ?_
        refine lv_iload_n G0.1 G0.2.1 dX8_bytesOf_10 rfl (lv_at hl 2 rfl) ?_
        refine lv_iload_n G0.1 G0.2.1 dX8_bytesOf_11 rfl (lv_at hl 0 rfl) ?_
        refine lv_iushr G0.1 G0.2.1 dX8_bytesOf_12 rfl ?_
        refine lv_topi (fun x_4 ex_4 => ?_)
        refine lv_sipush (v := 255) G0.1 G0.2.1 dX8_bytesOf_13 (by decide) ?_
        refine lv_iand G0.1 G0.2.1 dX8_bytesOf_16 ?_
        refine lv_topi (fun x_5 ex_5 => ?_)
        have jn_25 : ∀ (v_6 : Int32) (H_j25 : Heap) (locs : List Loc) (ls : Array Slot), (0 ≤ v_6.toInt ∧ v_6.toInt ≤ 1) → py_W E (va_A (va_pl L f) s.heap.size) s L f H_j25 locs → lv_has ls 3 [(2, .int v_1), (1, .int v_2), (0, .int a)] → W p l e (headSpec w_X8_bytesOf ({ frames := 0, cells := 0, slots := 0, locals := 0 })).room s m ([.int a] : List Value).toArray below meth c H_j25 locs 0 0 (MQ below (py_Qi E L f s.heap.size (fun _ L1 f1 => L = L1 ∧ f = f1)) ([.int a] : List Value).toArray s 0 0 (va_A (va_pl L f) s.heap.size)) (F0 m 25 ls [.int v_6, .int v_2]) := by
          intro v_6 H_j25 locs ls bv_6 hw hl
          refine lv_iadd G0.1 G0.2.1 dX8_bytesOf_25 ?_
          refine lv_topi (fun x_7 ex_7 => ?_)
          first | have tx_7 := ti_add ex_7 (by omega) (by omega) | skip
          refine lv_istore_n (lv' := [(1, .int x_7), (2, .int v_1), (0, .int a)]) G0.1 G0.2.1 dX8_bytesOf_26 rfl hl (by decide) rfl (fun ls hl => ?_)
          obtain ⟨x_8, ex_8⟩ : ∃ y : Int32, y = v_1 + (-8) := ⟨_, rfl⟩
          first | have tx_8 := ti_add ex_8 (by omega) (by omega) | skip
          refine lv_iinc (v := x_8) (lv' := [(2, .int x_8), (1, .int x_7), (0, .int a)]) G0.1 G0.2.1 dX8_bytesOf_27 hl (k := 1) rfl (show _ + ((-8) : Int32) = _ from ex_8.symm) (by decide) rfl (fun ls hl => ?_)
          refine lv_goto (tgt := 5) G0.1 G0.2.1 dX8_bytesOf_30 (by decide) ?_
          exact ih_5 ((x_8.toInt + 1).toNat) (by omega) x_8 x_7 _ _ ls rfl ⟨by omega, by omega⟩ hw (lv_sub hl [0, 1, 2] rfl)
        refine lv_if_eq (tgt := 24) G0.1 G0.2.1 dX8_bytesOf_17 (by decide) (fun c_9 => ?_) (fun c_9 => ?_)
        · skip
          have tc_9 := ti_eq c_9
          refine lv_iconst (v := 0) G0.1 G0.2.1 dX8_bytesOf_24 (by decide) ?_
          exact jn_25 0 _ _ ls ⟨by omega, by omega⟩ hw (lv_sub hl [0, 1, 2] rfl)
        · skip
          have tc_9 := ti_ne c_9
          refine lv_iconst (v := 1) G0.1 G0.2.1 dX8_bytesOf_20 (by decide) ?_
          refine lv_goto (tgt := 25) G0.1 G0.2.1 dX8_bytesOf_21 (by decide) ?_
          exact jn_25 1 _ _ ls ⟨by omega, by omega⟩ hw (lv_sub hl [0, 1, 2] rfl)
  exact lo_5 _ 24 0 _ _ ls rfl ⟨by omega, by omega⟩ hw (lv_sub hl [0, 1, 2] rfl)

def w_X8_append : List Cond := .code yX8_append cX8_append 4 none :: ([Cond.fieldLink RX8 13 "HeadYear$Tape" "length" "I", Cond.fieldLink RX8 9 "HeadYear$Tape" "bytes" "[I"] ++ (u_ws RX8 TX8 4 ++ ([])))
theorem in_X8_append_X8 : ∀ w ∈ u_ws RX8 TX8 4, w ∈ w_X8_append := fun _ h => List.mem_cons_of_mem _ (List.mem_append_right _ (List.mem_append_left _ h))
set_option maxHeartbeats 4000000 in
set_option maxRecDepth 100000 in
theorem c_X8_append (l : Launch) (E : py_E) (G : wf_G) (L : List Nat) (f : py_F) (sz : Nat) (t : Nat) (a : Int32) (hG : GT G) (hWF : WF E G L f) (Tt : G.1 t = 9) : Met l yX8_append w_X8_append ({ frames := 0, cells := 0, slots := 0, locals := 0 }) (py_Pc E [.ref t, .int a] L f sz) (py_Qv E L f sz (fun L1 f1 => WF E G L1 f1 ∧ RP E G f f1 ∧ KP G [9, 38] false f f1)) 0 0 (va_A (va_pl L f) sz) := by
  refine Met.ofW (cc := cX8_append) (maxL := 4) (ret := none) (by decide) rfl ?_
  intro p e s m args below meth c s₁ B hml hv
  obtain ⟨rfl, rfl, hw⟩ := py_start hv
  have G0 : CallFix p m c cX8_append 4 s _ w_X8_append RX8 := ⟨B.exec, B.bytes, hml, findClass_of_methodNamed B.named, atoms_spec (ws := w_X8_append) B.pre⟩
  have hr := B.returns
  have hlk := B.notSynchronized
  have kcm8 : (-8 : Int32).toInt = -8 := rfl
  have kcm1 : (-1 : Int32).toInt = -1 := rfl
  have kc0 : (0 : Int32).toInt = 0 := rfl
  have kc1 : (1 : Int32).toInt = 1 := rfl
  have kc24 : (24 : Int32).toInt = 24 := rfl
  have kc160 : (160 : Int32).toInt = 160 := rfl
  have kc255 : (255 : Int32).toInt = 255 := rfl
  have hl := lv_entry ([.ref t, .int a]) (n := 4) (Nat.le_of_ble_eq_true rfl)
  rw [lg_entry_eq]
  generalize (lg_sl ([.ref t, .int a]) ++ List.replicate (4 - (lg_sl ([.ref t, .int a])).length) Slot.unset).toArray = ls at hl ⊢
  have hl : lv_has ls 4 [(0, .ref t), (1, .int a)] := hl
  have hRP : RP E G f f := RP.refl
  have hKP : KP G [9, 38] false f f := KP.refl
  refine lv_bipush (v := 24) G0.1 G0.2.1 dX8_append_0 (by decide) ?_
  refine lv_istore_n (lv' := [(2, .int 24), (0, .ref t), (1, .int a)]) G0.1 G0.2.1 dX8_append_2 rfl hl (by decide) rfl (fun ls hl => ?_)
  have lo_3 : ∀ n_3 : Nat, ∀ (v_1 : Int32) (L_j3 : List Nat) (f_j3 : py_F) (H_j3 : Heap) (locs : List Loc) (ls : Array Slot), (v_1.toInt + 1).toNat = n_3 → ((-2147483648) ≤ v_1.toInt ∧ v_1.toInt ≤ 24) → WF E G L_j3 f_j3 → RP E G f f_j3 → KP G [9, 38] false f f_j3 → py_W E (va_A (va_pl L f) s.heap.size) s L_j3 f_j3 H_j3 locs → lv_has ls 4 [(2, .int v_1), (0, .ref t), (1, .int a)] → W p l e (headSpec w_X8_append ({ frames := 0, cells := 0, slots := 0, locals := 0 })).room s m ([.ref t, .int a] : List Value).toArray below meth c H_j3 locs 0 0 (MQ below (py_Qv E L f s.heap.size (fun L1 f1 => WF E G L1 f1 ∧ RP E G f f1 ∧ KP G [9, 38] false f f1)) ([.ref t, .int a] : List Value).toArray s 0 0 (va_A (va_pl L f) s.heap.size)) (F0 m 3 ls []) := by
    intro n_3
    induction n_3 using Nat.strongRecOn with
    | _ n_3 ih_3 =>
      intro v_1 L_j3 f_j3 H_j3 locs ls hn_3 bv_1 hWF hRP hKP hw hl
      refine lv_iload_n G0.1 G0.2.1 dX8_append_3 rfl (lv_at hl 0 rfl) ?_
      refine lv_if_lt (tgt := 55) G0.1 G0.2.1 dX8_append_4 (by decide) (fun c_2 => ?_) (fun c_2 => ?_)
      · skip
        have tc_2 := ti_lt c_2
        exact py_vret G0 hr hlk hw ⟨hWF, hRP, hKP⟩ dX8_append_55
      · skip
        have tc_2 := ti_nlt c_2
        refine lv_iload_n G0.1 G0.2.1 dX8_append_7 rfl (lv_at hl 2 rfl) ?_
        refine lv_iload_n G0.1 G0.2.1 dX8_append_8 rfl (lv_at hl 0 rfl) ?_
        refine lv_iushr G0.1 G0.2.1 dX8_append_9 rfl ?_
        refine lv_topi (fun x_3 ex_3 => ?_)
        refine lv_sipush (v := 255) G0.1 G0.2.1 dX8_append_10 (by decide) ?_
        refine lv_iand G0.1 G0.2.1 dX8_append_13 ?_
        refine lv_topi (fun x_4 ex_4 => ?_)
        refine lv_istore_n (lv' := [(3, .int x_4), (2, .int v_1), (0, .ref t), (1, .int a)]) G0.1 G0.2.1 dX8_append_14 rfl hl (by decide) rfl (fun ls hl => ?_)
        refine lv_iload_n G0.1 G0.2.1 dX8_append_15 rfl (lv_at hl 0 rfl) ?_
        have jn_49 : ∀ (L_j49 : List Nat) (f_j49 : py_F) (H_j49 : Heap) (locs : List Loc) (ls : Array Slot), WF E G L_j49 f_j49 → RP E G f f_j49 → KP G [9, 38] false f f_j49 → py_W E (va_A (va_pl L f) s.heap.size) s L_j49 f_j49 H_j49 locs → lv_has ls 4 [(3, .int x_4), (2, .int v_1), (0, .ref t), (1, .int a)] → W p l e (headSpec w_X8_append ({ frames := 0, cells := 0, slots := 0, locals := 0 })).room s m ([.ref t, .int a] : List Value).toArray below meth c H_j49 locs 0 0 (MQ below (py_Qv E L f s.heap.size (fun L1 f1 => WF E G L1 f1 ∧ RP E G f f1 ∧ KP G [9, 38] false f f1)) ([.ref t, .int a] : List Value).toArray s 0 0 (va_A (va_pl L f) s.heap.size)) (F0 m 49 ls []) := by
          intro L_j49 f_j49 H_j49 locs ls hWF hRP hKP hw hl
          obtain ⟨x_5, ex_5⟩ : ∃ y : Int32, y = v_1 + (-8) := ⟨_, rfl⟩
          first | have tx_5 := ti_add ex_5 (by omega) (by omega) | skip
          refine lv_iinc (v := x_5) (lv' := [(2, .int x_5), (3, .int x_4), (0, .ref t), (1, .int a)]) G0.1 G0.2.1 dX8_append_49 hl (k := 1) rfl (show _ + ((-8) : Int32) = _ from ex_5.symm) (by decide) rfl (fun ls hl => ?_)
          refine lv_goto (tgt := 3) G0.1 G0.2.1 dX8_append_52 (by decide) ?_
          exact ih_3 ((x_5.toInt + 1).toNat) (by omega) x_5 L_j49 f_j49 _ _ ls rfl ⟨by omega, by omega⟩ hWF hRP hKP hw (lv_sub hl [0, 2, 3] rfl)
        refine lv_if_eq (tgt := 49) G0.1 G0.2.1 dX8_append_16 (by decide) (fun c_6 => ?_) (fun c_6 => ?_)
        · skip
          have tc_6 := ti_eq c_6
          exact jn_49 L_j3 f_j3 _ _ ls hWF hRP hKP hw (lv_sub hl [0, 1, 2, 3] rfl)
        · skip
          have tc_6 := ti_ne c_6
          refine lv_aload_n G0.1 G0.2.1 dX8_append_19 rfl (lv_at hl 2 rfl) ?_
          have t_7 := wt_8 hG Tt
          obtain ⟨v_8, v_9, v_10, hr_13, b_11, b_12⟩ := wg_8 hWF Tt
          have bv_10 := wf_free v_10
          have tq_14 := tp_eq hr_13
          refine py_get (C := RX8) (T := TX8) (N := 4) (k := 1) (v := .int v_8) G0 hw in_X8_append_X8 rfl hr_13 (by decide) (by decide +kernel) rfl dX8_append_20 ?_
          refine lv_sipush (v := 160) G0.1 G0.2.1 dX8_append_23 (by decide) ?_
          refine lv_icmp_ge (tgt := 49) G0.1 G0.2.1 dX8_append_26 (by decide) (fun c_15 => ?_) (fun c_15 => ?_)
          · skip
            have tc_15 := ti_le c_15
            exact jn_49 L_j3 f_j3 _ _ ls hWF hRP hKP hw (lv_sub hl [0, 1, 2, 3] rfl)
          · skip
            have tc_15 := ti_nle c_15
            refine lv_aload_n G0.1 G0.2.1 dX8_append_29 rfl (lv_at hl 2 rfl) ?_
            refine py_get (C := RX8) (T := TX8) (N := 4) (k := 0) (v := .ref (G.2 t 0)) G0 hw in_X8_append_X8 rfl hr_13 (by decide) (by decide +kernel) rfl dX8_append_30 ?_
            refine lv_aload_n G0.1 G0.2.1 dX8_append_33 rfl (lv_at hl 2 rfl) ?_
            refine py_get (C := RX8) (T := TX8) (N := 4) (k := 1) (v := .int v_8) G0 hw in_X8_append_X8 rfl hr_13 (by decide) (by decide +kernel) rfl dX8_append_34 ?_
            refine lv_iload_n G0.1 G0.2.1 dX8_append_37 rfl (lv_at hl 0 rfl) ?_
            obtain ⟨g_16, ha_17, hi_18⟩ := wf_arr (n := 160) (lo := (-2147483648)) (hi := 2147483647) hWF t_7 (by decide) (fun _ => rfl)
            have rg_19 : vp_in v_8 160 := ti_in (by omega) (by omega)
            refine py_iast G0 hw ha_17 rg_19 dX8_append_38 (fun f_20 H_21 locs h_22 x_23 hw => ?_)
            have hKP := hKP.upd hWF x_23 t_7 (Or.inl (by decide))
            have hRP := hRP.trans (rp_upd hG hWF x_23 ha_17.2 h_22.2 (rp_code hG t_7 (by decide)) rfl)
            have hi_24 := wf_inu (k := (v_8 : Int32).toNatClampNeg) (x := x_4) hi_18 (wf_free x_4).1 (wf_free x_4).2
            have hWF := wf_upd hWF h_22 x_23 (by rw [t_7]; exact ⟨_, rfl, hi_24⟩)
            have hr_13 := hr_13.ext x_23 (py_ne_arr hr_13 ha_17)
            have tq_25 := tp_eq hr_13
            refine lv_aload_n G0.1 G0.2.1 dX8_append_39 rfl (lv_at hl 2 rfl) ?_
            refine lv_dup G0.1 G0.2.1 dX8_append_40 rfl ?_
            refine py_get (C := RX8) (T := TX8) (N := 4) (k := 1) (v := .int v_8) G0 hw in_X8_append_X8 rfl hr_13 (by decide) (by decide +kernel) rfl dX8_append_41 ?_
            refine lv_iconst (v := 1) G0.1 G0.2.1 dX8_append_44 (by decide) ?_
            refine lv_iadd G0.1 G0.2.1 dX8_append_45 ?_
            refine lv_topi (fun x_26 ex_26 => ?_)
            first | have tx_26 := ti_add ex_26 (by omega) (by omega) | skip
            refine py_put (C := RX8) (T := TX8) (N := 4) (k := 1) (v := .int x_26) (fs' := [.ref (G.2 t 0), .int x_26, .int v_9, .int v_10]) (ty0 := tyX8) G0 hw tyX8_ok nmX8 in_X8_append_X8 rfl hr_13 (by decide) (by decide +kernel) rfl rfl rfl rfl (Nat.le_of_ble_eq_true rfl) rfl dX8_append_46 (fun f_27 H_28 locs h_29 x_30 hw => ?_)
            have hKP := hKP.upd hWF x_30 Tt (Or.inl (by decide))
            have hRP := hRP.trans (rp_upd hG hWF x_30 hr_13.2 h_29.2 (rp_code hG Tt (by decide)) rfl)
            have hWF := wf_upd hWF h_29 x_30 (by rw [Tt]; exact ⟨x_26, v_9, v_10, rfl, ⟨by omega, by omega⟩, ⟨by omega, by omega⟩⟩)
            have h_22 := h_22.ext x_30 (Ne.symm (py_ne_arr hr_13 h_22))
            have tq_31 := tp_eq h_29
            exact jn_49 L_j3 f_27 _ _ ls hWF hRP hKP hw (lv_sub hl [0, 1, 2, 3] rfl)
  exact lo_3 _ 24 L f _ _ ls rfl ⟨by omega, by omega⟩ hWF hRP hKP hw (lv_sub hl [0, 1, 2] rfl)

def w_X8_isDigitHere : List Cond := .code yX8_isDigitHere cX8_isDigitHere 1 (some .boolean) :: ([Cond.fieldLink RX8 17 "HeadYear$Tape" "at" "I", Cond.fieldLink RX8 13 "HeadYear$Tape" "length" "I", Cond.fieldLink RX8 9 "HeadYear$Tape" "bytes" "[I"] ++ (u_ws RX8 TX8 4 ++ ([])))
theorem in_X8_isDigitHere_X8 : ∀ w ∈ u_ws RX8 TX8 4, w ∈ w_X8_isDigitHere := fun _ h => List.mem_cons_of_mem _ (List.mem_append_right _ (List.mem_append_left _ h))
set_option maxHeartbeats 4000000 in
set_option maxRecDepth 100000 in
theorem c_X8_isDigitHere (l : Launch) (E : py_E) (G : wf_G) (L : List Nat) (f : py_F) (sz : Nat) (t : Nat) (gb : rs_B) (nb : Int) (pb : Int) (hG : GT G) (hWF : WF E G L f) (Tt : G.1 t = 9) (hp0 : tp_l f t = nb ∧ tp_a f t = pb) (hp1 : 0 ≤ pb ∧ nb ≤ 160) (hq0 : gfn f (G.2 t 0) = gb) : Met l yX8_isDigitHere w_X8_isDigitHere ({ frames := 0, cells := 0, slots := 0, locals := 0 }) (py_Pc E [.ref t] L f sz) (py_Qi E L f sz (fun r L1 f1 => (0 ≤ r.toInt ∧ r.toInt ≤ 1) ∧ (r.toInt ≠ 0 → tp_a f1 t < tp_l f1 t) ∧ (r.toInt = rs_d (rs_v gb nb pb)) ∧ L = L1 ∧ f = f1)) 0 0 (va_A (va_pl L f) sz) := by
  refine Met.ofW (cc := cX8_isDigitHere) (maxL := 1) (ret := (some .boolean)) (by decide) rfl ?_
  intro p e s m args below meth c s₁ B hml hv
  obtain ⟨rfl, rfl, hw⟩ := py_start hv
  have G0 : CallFix p m c cX8_isDigitHere 1 s _ w_X8_isDigitHere RX8 := ⟨B.exec, B.bytes, hml, findClass_of_methodNamed B.named, atoms_spec (ws := w_X8_isDigitHere) B.pre⟩
  have hr := B.returns
  have hlk := B.notSynchronized
  have kcm1 : (-1 : Int32).toInt = -1 := rfl
  have kc0 : (0 : Int32).toInt = 0 := rfl
  have kc1 : (1 : Int32).toInt = 1 := rfl
  have kc48 : (48 : Int32).toInt = 48 := rfl
  have kc57 : (57 : Int32).toInt = 57 := rfl
  have hl := lv_entry ([.ref t]) (n := 1) (Nat.le_of_ble_eq_true rfl)
  rw [lg_entry_eq]
  generalize (lg_sl ([.ref t]) ++ List.replicate (1 - (lg_sl ([.ref t])).length) Slot.unset).toArray = ls at hl ⊢
  have hl : lv_has ls 1 [(0, .ref t)] := hl
  have hRP : RP E G f f := RP.refl
  have hTB := hq0
  refine lv_aload_n G0.1 G0.2.1 dX8_isDigitHere_0 rfl (lv_at hl 0 rfl) ?_
  have t_1 := wt_8 hG Tt
  obtain ⟨v_2, v_3, v_4, hr_7, b_5, b_6⟩ := wg_8 hWF Tt
  have bv_4 := wf_free v_4
  have tq_8 := tp_eq hr_7
  refine py_get (C := RX8) (T := TX8) (N := 4) (k := 2) (v := .int v_3) G0 hw in_X8_isDigitHere_X8 rfl hr_7 (by decide) (by decide +kernel) rfl dX8_isDigitHere_1 ?_
  refine lv_aload_n G0.1 G0.2.1 dX8_isDigitHere_4 rfl (lv_at hl 0 rfl) ?_
  refine py_get (C := RX8) (T := TX8) (N := 4) (k := 1) (v := .int v_2) G0 hw in_X8_isDigitHere_X8 rfl hr_7 (by decide) (by decide +kernel) rfl dX8_isDigitHere_5 ?_
  refine lv_icmp_ge (tgt := 43) G0.1 G0.2.1 dX8_isDigitHere_8 (by decide) (fun c_9 => ?_) (fun c_9 => ?_)
  · skip
    have tc_9 := ti_le c_9
    refine lv_iconst (v := 0) G0.1 G0.2.1 dX8_isDigitHere_43 (by decide) ?_
    exact py_iret G0 hr rfl hlk hw ⟨⟨by omega, by omega⟩, (by first | omega | (intro q; omega)), (by have hz := rs_d_eq (rs_v gb nb pb); first | omega | (have hy := rs_v_out (g := gb) (n := nb) (p := pb) (by omega); omega)), rfl, rfl⟩ dX8_isDigitHere_44
  · skip
    have tc_9 := ti_nle c_9
    refine lv_aload_n G0.1 G0.2.1 dX8_isDigitHere_11 rfl (lv_at hl 0 rfl) ?_
    refine py_get (C := RX8) (T := TX8) (N := 4) (k := 0) (v := .ref (G.2 t 0)) G0 hw in_X8_isDigitHere_X8 rfl hr_7 (by decide) (by decide +kernel) rfl dX8_isDigitHere_12 ?_
    refine lv_aload_n G0.1 G0.2.1 dX8_isDigitHere_15 rfl (lv_at hl 0 rfl) ?_
    refine py_get (C := RX8) (T := TX8) (N := 4) (k := 2) (v := .int v_3) G0 hw in_X8_isDigitHere_X8 rfl hr_7 (by decide) (by decide +kernel) rfl dX8_isDigitHere_16 ?_
    obtain ⟨g_10, ha_11, hi_12⟩ := wf_arr (n := 160) (lo := (-2147483648)) (hi := 2147483647) hWF t_1 (by decide) (fun _ => rfl)
    have rg_13 : vp_in v_3 160 := ti_in (by omega) (by omega)
    refine py_iald G0 hw ha_11 rg_13 dX8_isDigitHere_19 ?_
    refine lv_topi (fun x_14 ex_14 => ?_)
    have bx_14 := wf_free x_14
    have vz_15 : rs_v gb nb pb = x_14.toInt := rs_vl hTB ha_11 ex_14 (by omega) (by omega)
    refine lv_bipush (v := 48) G0.1 G0.2.1 dX8_isDigitHere_20 (by decide) ?_
    refine lv_icmp_lt (tgt := 43) G0.1 G0.2.1 dX8_isDigitHere_22 (by decide) (fun c_16 => ?_) (fun c_16 => ?_)
    · skip
      have tc_16 := ti_lt c_16
      refine lv_iconst (v := 0) G0.1 G0.2.1 dX8_isDigitHere_43 (by decide) ?_
      exact py_iret G0 hr rfl hlk hw ⟨⟨by omega, by omega⟩, (by first | omega | (intro q; omega)), (by have hz := rs_d_eq (rs_v gb nb pb); first | omega | (have hy := rs_v_out (g := gb) (n := nb) (p := pb) (by omega); omega)), rfl, rfl⟩ dX8_isDigitHere_44
    · skip
      have tc_16 := ti_nlt c_16
      refine lv_aload_n G0.1 G0.2.1 dX8_isDigitHere_25 rfl (lv_at hl 0 rfl) ?_
      refine py_get (C := RX8) (T := TX8) (N := 4) (k := 0) (v := .ref (G.2 t 0)) G0 hw in_X8_isDigitHere_X8 rfl hr_7 (by decide) (by decide +kernel) rfl dX8_isDigitHere_26 ?_
      refine lv_aload_n G0.1 G0.2.1 dX8_isDigitHere_29 rfl (lv_at hl 0 rfl) ?_
      refine py_get (C := RX8) (T := TX8) (N := 4) (k := 2) (v := .int v_3) G0 hw in_X8_isDigitHere_X8 rfl hr_7 (by decide) (by decide +kernel) rfl dX8_isDigitHere_30 ?_
      have rg_17 : vp_in v_3 160 := ti_in (by omega) (by omega)
      refine py_iald G0 hw ha_11 rg_17 dX8_isDigitHere_33 ?_
      refine lv_topi (fun x_18 ex_18 => ?_)
      have bx_18 := wf_free x_18
      have vz_19 : rs_v gb nb pb = x_18.toInt := rs_vl hTB ha_11 ex_18 (by omega) (by omega)
      refine lv_bipush (v := 57) G0.1 G0.2.1 dX8_isDigitHere_34 (by decide) ?_
      refine lv_icmp_gt (tgt := 43) G0.1 G0.2.1 dX8_isDigitHere_36 (by decide) (fun c_20 => ?_) (fun c_20 => ?_)
      · skip
        have tc_20 := ti_lt c_20
        refine lv_iconst (v := 0) G0.1 G0.2.1 dX8_isDigitHere_43 (by decide) ?_
        exact py_iret G0 hr rfl hlk hw ⟨⟨by omega, by omega⟩, (by first | omega | (intro q; omega)), (by have hz := rs_d_eq (rs_v gb nb pb); first | omega | (have hy := rs_v_out (g := gb) (n := nb) (p := pb) (by omega); omega)), rfl, rfl⟩ dX8_isDigitHere_44
      · skip
        have tc_20 := ti_nlt c_20
        refine lv_iconst (v := 1) G0.1 G0.2.1 dX8_isDigitHere_39 (by decide) ?_
        refine lv_goto (tgt := 44) G0.1 G0.2.1 dX8_isDigitHere_40 (by decide) ?_
        exact py_iret G0 hr rfl hlk hw ⟨⟨by omega, by omega⟩, (by first | omega | (intro q; omega)), (by have hz := rs_d_eq (rs_v gb nb pb); first | omega | (have hy := rs_v_out (g := gb) (n := nb) (p := pb) (by omega); omega)), rfl, rfl⟩ dX8_isDigitHere_44

def w_X8_next : List Cond := .code yX8_next cX8_next 1 (some .int) :: ([Cond.fieldLink RX8 17 "HeadYear$Tape" "at" "I", Cond.fieldLink RX8 13 "HeadYear$Tape" "length" "I", Cond.fieldLink RX8 9 "HeadYear$Tape" "bytes" "[I"] ++ (u_ws RX8 TX8 4 ++ ([])))
theorem in_X8_next_X8 : ∀ w ∈ u_ws RX8 TX8 4, w ∈ w_X8_next := fun _ h => List.mem_cons_of_mem _ (List.mem_append_right _ (List.mem_append_left _ h))
set_option maxHeartbeats 4000000 in
set_option maxRecDepth 100000 in
theorem c_X8_next (l : Launch) (E : py_E) (G : wf_G) (L : List Nat) (f : py_F) (sz : Nat) (t : Nat) (gb : rs_B) (nb : Int) (pb : Int) (hG : GT G) (hWF : WF E G L f) (Tt : G.1 t = 9) (hp0 : tp_l f t = nb ∧ tp_a f t = pb) (hp1 : 0 ≤ pb ∧ nb ≤ 160) (hq0 : gfn f (G.2 t 0) = gb) : Met l yX8_next w_X8_next ({ frames := 0, cells := 0, slots := 0, locals := 0 }) (py_Pc E [.ref t] L f sz) (py_Qi E L f sz (fun r L1 f1 => (r.toInt ≠ 0 → tp_a f1 t < tp_l f1 t) ∧ (tp_l f1 t = nb) ∧ (pb ≤ tp_a f1 t) ∧ (tp_a f1 t ≤ nb ∨ tp_a f1 t = pb) ∧ (r.toInt = rs_v gb nb (rs_sk gb nb pb) ∧ tp_a f1 t = rs_sk gb nb pb) ∧ WF E G L1 f1 ∧ RP E G f f1 ∧ KP G [9] false f f1)) 0 0 (va_A (va_pl L f) sz) := by
  refine Met.ofW (cc := cX8_next) (maxL := 1) (ret := (some .int)) (by decide) rfl ?_
  intro p e s m args below meth c s₁ B hml hv
  obtain ⟨rfl, rfl, hw⟩ := py_start hv
  have G0 : CallFix p m c cX8_next 1 s _ w_X8_next RX8 := ⟨B.exec, B.bytes, hml, findClass_of_methodNamed B.named, atoms_spec (ws := w_X8_next) B.pre⟩
  have hr := B.returns
  have hlk := B.notSynchronized
  have kcm1 : (-1 : Int32).toInt = -1 := rfl
  have kc0 : (0 : Int32).toInt = 0 := rfl
  have kc1 : (1 : Int32).toInt = 1 := rfl
  have kc32 : (32 : Int32).toInt = 32 := rfl
  have hl := lv_entry ([.ref t]) (n := 1) (Nat.le_of_ble_eq_true rfl)
  rw [lg_entry_eq]
  generalize (lg_sl ([.ref t]) ++ List.replicate (1 - (lg_sl ([.ref t])).length) Slot.unset).toArray = ls at hl ⊢
  have hl : lv_has ls 1 [(0, .ref t)] := hl
  have hRP : RP E G f f := RP.refl
  have hKP : KP G [9] false f f := KP.refl
  have hTB := hq0
  have lo_0 : ∀ n_0 : Nat, ∀ (L_j0 : List Nat) (f_j0 : py_F) (H_j0 : Heap) (locs : List Loc) (ls : Array Slot), (tp_l f_j0 t - tp_a f_j0 t).toNat = n_0 → WF E G L_j0 f_j0 → RP E G f f_j0 → KP G [9] false f f_j0 → gfn f_j0 (G.2 t 0) = gb → (tp_l f_j0 t = nb) → (pb ≤ tp_a f_j0 t ∧ (tp_a f_j0 t ≤ nb ∨ tp_a f_j0 t = pb)) → (rs_sk gb nb (tp_a f_j0 t) = rs_sk gb nb pb) → py_W E (va_A (va_pl L f) s.heap.size) s L_j0 f_j0 H_j0 locs → lv_has ls 1 [(0, .ref t)] → W p l e (headSpec w_X8_next ({ frames := 0, cells := 0, slots := 0, locals := 0 })).room s m ([.ref t] : List Value).toArray below meth c H_j0 locs 0 0 (MQ below (py_Qi E L f s.heap.size (fun r L1 f1 => (r.toInt ≠ 0 → tp_a f1 t < tp_l f1 t) ∧ (tp_l f1 t = nb) ∧ (pb ≤ tp_a f1 t) ∧ (tp_a f1 t ≤ nb ∨ tp_a f1 t = pb) ∧ (r.toInt = rs_v gb nb (rs_sk gb nb pb) ∧ tp_a f1 t = rs_sk gb nb pb) ∧ WF E G L1 f1 ∧ RP E G f f1 ∧ KP G [9] false f f1)) ([.ref t] : List Value).toArray s 0 0 (va_A (va_pl L f) s.heap.size)) (F0 m 0 ls []) := by
    intro n_0
    induction n_0 using Nat.strongRecOn with
    | _ n_0 ih_0 =>
      intro L_j0 f_j0 H_j0 locs ls hn_0 hWF hRP hKP hTB iv0 iv1 iv2 hw hl
      refine lv_aload_n G0.1 G0.2.1 dX8_next_0 rfl (lv_at hl 0 rfl) ?_
      have t_1 := wt_8 hG Tt
      obtain ⟨v_2, v_3, v_4, hr_7, b_5, b_6⟩ := wg_8 hWF Tt
      have bv_4 := wf_free v_4
      have tq_8 := tp_eq hr_7
      refine py_get (C := RX8) (T := TX8) (N := 4) (k := 2) (v := .int v_3) G0 hw in_X8_next_X8 rfl hr_7 (by decide) (by decide +kernel) rfl dX8_next_1 ?_
      refine lv_aload_n G0.1 G0.2.1 dX8_next_4 rfl (lv_at hl 0 rfl) ?_
      refine py_get (C := RX8) (T := TX8) (N := 4) (k := 1) (v := .int v_2) G0 hw in_X8_next_X8 rfl hr_7 (by decide) (by decide +kernel) rfl dX8_next_5 ?_
      refine lv_icmp_ge (tgt := 38) G0.1 G0.2.1 dX8_next_8 (by decide) (fun c_9 => ?_) (fun c_9 => ?_)
      · skip
        have tc_9 := ti_le c_9
        have hsk : rs_sk gb nb pb = tp_a f_j0 t := iv2.symm.trans (rs_sk_stop (by first | omega | (have hy := rs_v_out (g := gb) (n := nb) (p := tp_a f_j0 t) (by omega); omega)))
        refine lv_aload_n G0.1 G0.2.1 dX8_next_38 rfl (lv_at hl 0 rfl) ?_
        refine py_get (C := RX8) (T := TX8) (N := 4) (k := 2) (v := .int v_3) G0 hw in_X8_next_X8 rfl hr_7 (by decide) (by decide +kernel) rfl dX8_next_39 ?_
        refine lv_aload_n G0.1 G0.2.1 dX8_next_42 rfl (lv_at hl 0 rfl) ?_
        refine py_get (C := RX8) (T := TX8) (N := 4) (k := 1) (v := .int v_2) G0 hw in_X8_next_X8 rfl hr_7 (by decide) (by decide +kernel) rfl dX8_next_43 ?_
        refine lv_icmp_ge (tgt := 61) G0.1 G0.2.1 dX8_next_46 (by decide) (fun c_10 => ?_) (fun c_10 => ?_)
        · skip
          have tc_10 := ti_le c_10
          refine lv_iconst (v := 0) G0.1 G0.2.1 dX8_next_61 (by decide) ?_
          exact py_iret G0 hr rfl hlk hw ⟨(by first | omega | (intro q; omega)), (by first | omega | (intro q; omega)), (by first | omega | (intro q; omega)), (by first | omega | (intro q; omega)), (by rw [hsk]; exact ⟨by first | omega | (have hy := rs_v_out (g := gb) (n := nb) (p := tp_a f_j0 t) (by omega); omega), rfl⟩), hWF, hRP, hKP⟩ dX8_next_62
        · skip
          have tc_10 := ti_nle c_10
          refine lv_aload_n G0.1 G0.2.1 dX8_next_49 rfl (lv_at hl 0 rfl) ?_
          refine py_get (C := RX8) (T := TX8) (N := 4) (k := 0) (v := .ref (G.2 t 0)) G0 hw in_X8_next_X8 rfl hr_7 (by decide) (by decide +kernel) rfl dX8_next_50 ?_
          refine lv_aload_n G0.1 G0.2.1 dX8_next_53 rfl (lv_at hl 0 rfl) ?_
          refine py_get (C := RX8) (T := TX8) (N := 4) (k := 2) (v := .int v_3) G0 hw in_X8_next_X8 rfl hr_7 (by decide) (by decide +kernel) rfl dX8_next_54 ?_
          obtain ⟨g_11, ha_12, hi_13⟩ := wf_arr (n := 160) (lo := (-2147483648)) (hi := 2147483647) hWF t_1 (by decide) (fun _ => rfl)
          have rg_14 : vp_in v_3 160 := ti_in (by omega) (by omega)
          refine py_iald G0 hw ha_12 rg_14 dX8_next_57 ?_
          refine lv_topi (fun x_15 ex_15 => ?_)
          have bx_15 := wf_free x_15
          have vz_16 : rs_v gb nb (tp_a f_j0 t) = x_15.toInt := rs_vl hTB ha_12 ex_15 (by omega) (by omega)
          refine lv_goto (tgt := 62) G0.1 G0.2.1 dX8_next_58 (by decide) ?_
          exact py_iret G0 hr rfl hlk hw ⟨(by first | omega | (intro q; omega)), (by first | omega | (intro q; omega)), (by first | omega | (intro q; omega)), (by first | omega | (intro q; omega)), (by rw [hsk]; exact ⟨by first | omega | (have hy := rs_v_out (g := gb) (n := nb) (p := tp_a f_j0 t) (by omega); omega), rfl⟩), hWF, hRP, hKP⟩ dX8_next_62
      · skip
        have tc_9 := ti_nle c_9
        refine lv_aload_n G0.1 G0.2.1 dX8_next_11 rfl (lv_at hl 0 rfl) ?_
        refine py_get (C := RX8) (T := TX8) (N := 4) (k := 0) (v := .ref (G.2 t 0)) G0 hw in_X8_next_X8 rfl hr_7 (by decide) (by decide +kernel) rfl dX8_next_12 ?_
        refine lv_aload_n G0.1 G0.2.1 dX8_next_15 rfl (lv_at hl 0 rfl) ?_
        refine py_get (C := RX8) (T := TX8) (N := 4) (k := 2) (v := .int v_3) G0 hw in_X8_next_X8 rfl hr_7 (by decide) (by decide +kernel) rfl dX8_next_16 ?_
        obtain ⟨g_17, ha_18, hi_19⟩ := wf_arr (n := 160) (lo := (-2147483648)) (hi := 2147483647) hWF t_1 (by decide) (fun _ => rfl)
        have rg_20 : vp_in v_3 160 := ti_in (by omega) (by omega)
        refine py_iald G0 hw ha_18 rg_20 dX8_next_19 ?_
        refine lv_topi (fun x_21 ex_21 => ?_)
        have bx_21 := wf_free x_21
        have vz_22 : rs_v gb nb (tp_a f_j0 t) = x_21.toInt := rs_vl hTB ha_18 ex_21 (by omega) (by omega)
        refine lv_bipush (v := 32) G0.1 G0.2.1 dX8_next_20 (by decide) ?_
        refine lv_icmp_ne (tgt := 38) G0.1 G0.2.1 dX8_next_22 (by decide) (fun c_23 => ?_) (fun c_23 => ?_)
        · skip
          have tc_23 := ti_ne c_23
          have hsk : rs_sk gb nb pb = tp_a f_j0 t := iv2.symm.trans (rs_sk_stop (by first | omega | (have hy := rs_v_out (g := gb) (n := nb) (p := tp_a f_j0 t) (by omega); omega)))
          refine lv_aload_n G0.1 G0.2.1 dX8_next_38 rfl (lv_at hl 0 rfl) ?_
          refine py_get (C := RX8) (T := TX8) (N := 4) (k := 2) (v := .int v_3) G0 hw in_X8_next_X8 rfl hr_7 (by decide) (by decide +kernel) rfl dX8_next_39 ?_
          refine lv_aload_n G0.1 G0.2.1 dX8_next_42 rfl (lv_at hl 0 rfl) ?_
          refine py_get (C := RX8) (T := TX8) (N := 4) (k := 1) (v := .int v_2) G0 hw in_X8_next_X8 rfl hr_7 (by decide) (by decide +kernel) rfl dX8_next_43 ?_
          refine lv_icmp_ge (tgt := 61) G0.1 G0.2.1 dX8_next_46 (by decide) (fun c_24 => ?_) (fun c_24 => ?_)
          · skip
            have tc_24 := ti_le c_24
            refine lv_iconst (v := 0) G0.1 G0.2.1 dX8_next_61 (by decide) ?_
            exact py_iret G0 hr rfl hlk hw ⟨(by first | omega | (intro q; omega)), (by first | omega | (intro q; omega)), (by first | omega | (intro q; omega)), (by first | omega | (intro q; omega)), (by rw [hsk]; exact ⟨by first | omega | (have hy := rs_v_out (g := gb) (n := nb) (p := tp_a f_j0 t) (by omega); omega), rfl⟩), hWF, hRP, hKP⟩ dX8_next_62
          · skip
            have tc_24 := ti_nle c_24
            refine lv_aload_n G0.1 G0.2.1 dX8_next_49 rfl (lv_at hl 0 rfl) ?_
            refine py_get (C := RX8) (T := TX8) (N := 4) (k := 0) (v := .ref (G.2 t 0)) G0 hw in_X8_next_X8 rfl hr_7 (by decide) (by decide +kernel) rfl dX8_next_50 ?_
            refine lv_aload_n G0.1 G0.2.1 dX8_next_53 rfl (lv_at hl 0 rfl) ?_
            refine py_get (C := RX8) (T := TX8) (N := 4) (k := 2) (v := .int v_3) G0 hw in_X8_next_X8 rfl hr_7 (by decide) (by decide +kernel) rfl dX8_next_54 ?_
            have rg_25 : vp_in v_3 160 := ti_in (by omega) (by omega)
            refine py_iald G0 hw ha_18 rg_25 dX8_next_57 ?_
            refine lv_topi (fun x_26 ex_26 => ?_)
            have bx_26 := wf_free x_26
            have vz_27 : rs_v gb nb (tp_a f_j0 t) = x_26.toInt := rs_vl hTB ha_18 ex_26 (by omega) (by omega)
            refine lv_goto (tgt := 62) G0.1 G0.2.1 dX8_next_58 (by decide) ?_
            exact py_iret G0 hr rfl hlk hw ⟨(by first | omega | (intro q; omega)), (by first | omega | (intro q; omega)), (by first | omega | (intro q; omega)), (by first | omega | (intro q; omega)), (by rw [hsk]; exact ⟨by first | omega | (have hy := rs_v_out (g := gb) (n := nb) (p := tp_a f_j0 t) (by omega); omega), rfl⟩), hWF, hRP, hKP⟩ dX8_next_62
        · skip
          have tc_23 := ti_eq c_23
          refine lv_aload_n G0.1 G0.2.1 dX8_next_25 rfl (lv_at hl 0 rfl) ?_
          refine lv_dup G0.1 G0.2.1 dX8_next_26 rfl ?_
          refine py_get (C := RX8) (T := TX8) (N := 4) (k := 2) (v := .int v_3) G0 hw in_X8_next_X8 rfl hr_7 (by decide) (by decide +kernel) rfl dX8_next_27 ?_
          refine lv_iconst (v := 1) G0.1 G0.2.1 dX8_next_30 (by decide) ?_
          refine lv_iadd G0.1 G0.2.1 dX8_next_31 ?_
          refine lv_topi (fun x_28 ex_28 => ?_)
          first | have tx_28 := ti_add ex_28 (by omega) (by omega) | skip
          refine py_put (C := RX8) (T := TX8) (N := 4) (k := 2) (v := .int x_28) (fs' := [.ref (G.2 t 0), .int v_2, .int x_28, .int v_4]) (ty0 := tyX8) G0 hw tyX8_ok nmX8 in_X8_next_X8 rfl hr_7 (by decide) (by decide +kernel) rfl rfl rfl rfl (Nat.le_of_ble_eq_true rfl) rfl dX8_next_32 (fun f_29 H_30 locs h_31 x_32 hw => ?_)
          have hTB := (gfn_kp (kp_f (KP.refl.upd hWF x_32 Tt (Or.inl (by decide)) : KP G [9] false f_j0 f_29) (wt_8 hG Tt) (by decide) (by decide) (fun _ => by decide))).trans hTB
          have hKP := hKP.upd hWF x_32 Tt (Or.inl (by decide))
          have hRP := hRP.trans (rp_upd hG hWF x_32 hr_7.2 h_31.2 (rp_code hG Tt (by decide)) rfl)
          have hWF := wf_upd hWF h_31 x_32 (by rw [Tt]; exact ⟨v_2, x_28, v_4, rfl, ⟨by omega, by omega⟩, ⟨by omega, by omega⟩⟩)
          have ha_18 := ha_18.ext x_32 (Ne.symm (py_ne_arr hr_7 ha_18))
          have tq_33 := tp_eq h_31
          refine lv_goto (tgt := 0) G0.1 G0.2.1 dX8_next_35 (by decide) ?_
          exact ih_0 ((tp_l f_29 t - tp_a f_29 t).toNat) (by omega) L_j0 f_29 _ _ ls rfl hWF hRP hKP hTB (by first | omega | (intros; omega)) (by first | omega | (intros; omega)) (rs_sk_on iv2 (by omega) (by omega)) hw (lv_sub hl [0] rfl)
  exact lo_0 _ L f _ _ ls rfl hWF hRP hKP hTB (by first | omega | (intros; omega)) (by first | omega | (intros; omega)) (by rw [show tp_a f t = pb by omega]) hw (lv_sub hl [0] rfl)

def w_X8_take : List Cond := .code yX8_take cX8_take 2 (some .boolean) :: ([Cond.methodLink RX8 23 yX8_next, Cond.instanceMethod yX8_next, Cond.selects RX8 yX8_next yX8_next, Cond.initialized RX8, Cond.fieldLink RX8 17 "HeadYear$Tape" "at" "I"] ++ (u_ws RX8 TX8 4 ++ (w_X8_next ++ ([]))))
theorem in_X8_take_X8 : ∀ w ∈ u_ws RX8 TX8 4, w ∈ w_X8_take := fun _ h => List.mem_cons_of_mem _ (List.mem_append_right _ (List.mem_append_left _ h))
theorem gg_X8_take_X8_next : GoodIn w_X8_take w_X8_next := goodIn_sub (fun _ h => List.mem_cons_of_mem _ (List.mem_append_right _ (List.mem_append_right _ (List.mem_append_left _ h)))) (by decide +kernel)
theorem g_X8_take_X8_next_23 : GoodIn w_X8_take (wsV RX8 23 RX8 yX8_next w_X8_next) := goodIn_app (goodIn_of _ (by decide +kernel)) gg_X8_take_X8_next
set_option maxHeartbeats 4000000 in
set_option maxRecDepth 100000 in
theorem c_X8_take (l : Launch) (E : py_E) (G : wf_G) (L : List Nat) (f : py_F) (sz : Nat) (t : Nat) (a : Int32) (gb : rs_B) (nb : Int) (pb : Int) (hG : GT G) (hWF : WF E G L f) (Tt : G.1 t = 9) (Ba : (1 ≤ a.toInt ∧ a.toInt ≤ 65535)) (hp0 : tp_l f t = nb ∧ tp_a f t = pb) (hp1 : 0 ≤ pb ∧ nb ≤ 160) (hq0 : gfn f (G.2 t 0) = gb) : Met l yX8_take w_X8_take ({ frames := 1, cells := 0, slots := 0, locals := 20 }) (py_Pc E [.ref t, .int a] L f sz) (py_Qi E L f sz (fun r L1 f1 => (0 ≤ r.toInt ∧ r.toInt ≤ 1) ∧ (tp_l f1 t = nb) ∧ (pb ≤ tp_a f1 t) ∧ (r.toInt ≠ 0 → rs_v gb nb (rs_sk gb nb pb) = a.toInt ∧ tp_a f1 t = rs_sk gb nb pb + 1 ∧ pb + 1 ≤ tp_a f1 t ∧ tp_a f1 t ≤ nb) ∧ (r.toInt = 0 → rs_v gb nb (rs_sk gb nb pb) ≠ a.toInt ∧ tp_a f1 t = rs_sk gb nb pb) ∧ WF E G L1 f1 ∧ RP E G f f1 ∧ KP G [9] false f f1)) 0 0 (va_A (va_pl L f) sz) := by
  refine Met.ofW (cc := cX8_take) (maxL := 2) (ret := (some .boolean)) (by decide) rfl ?_
  intro p e s m args below meth c s₁ B hml hv
  obtain ⟨rfl, rfl, hw⟩ := py_start hv
  have G0 : CallFix p m c cX8_take 2 s _ w_X8_take RX8 := ⟨B.exec, B.bytes, hml, findClass_of_methodNamed B.named, atoms_spec (ws := w_X8_take) B.pre⟩
  have hr := B.returns
  have hlk := B.notSynchronized
  have kcm1 : (-1 : Int32).toInt = -1 := rfl
  have kc0 : (0 : Int32).toInt = 0 := rfl
  have kc1 : (1 : Int32).toInt = 1 := rfl
  have hl := lv_entry ([.ref t, .int a]) (n := 2) (Nat.le_of_ble_eq_true rfl)
  rw [lg_entry_eq]
  generalize (lg_sl ([.ref t, .int a]) ++ List.replicate (2 - (lg_sl ([.ref t, .int a])).length) Slot.unset).toArray = ls at hl ⊢
  have hl : lv_has ls 2 [(0, .ref t), (1, .int a)] := hl
  have hRP : RP E G f f := RP.refl
  have hKP : KP G [9] false f f := KP.refl
  have hTB := hq0
  refine lv_aload_n G0.1 G0.2.1 dX8_take_0 rfl (lv_at hl 0 rfl) ?_
  have t_1 := wt_8 hG Tt
  obtain ⟨v_2, v_3, v_4, hr_7, b_5, b_6⟩ := wg_8 hWF Tt
  have bv_4 := wf_free v_4
  have tq_8 := tp_eq hr_7
  refine py_calli hw (va_runV (As := []) (rest := []) G0 (c_X8_next l E G L f s.heap.size t gb nb pb hG hWF Tt (show tp_l f t = nb ∧ tp_a f t = pb by omega) (show 0 ≤ pb ∧ nb ≤ 160 by omega) hTB) (cwV 0 G0.2.2.2.2 g_X8_take_X8_next_23 rfl rfl rfl (by decide +kernel) ⟨(Nat.le_of_ble_eq_true rfl), (Nat.le_of_ble_eq_true rfl)⟩) (py_preV hw (C := RX8) (T := TX8) (N := 4) rfl hr_7) rfl rfl hl.1 rfl (lv_room (Nat.le_of_ble_eq_true rfl)) dX8_take_1 ⟨(Nat.le_of_ble_eq_true rfl), (Nat.le_of_ble_eq_true rfl)⟩) (fun r_13 L_9 f_10 H_11 locs hp_12 hw => ?_)
  obtain ⟨en_14, en_15, en_16, en_17, en_18, hWF, hq_19, kp_20⟩ := hp_12
  have hTB := (gfn_kp (kp_f kp_20 (wt_8 hG Tt) (by decide) (by decide) (fun _ => by decide))).trans hTB
  have hRP := hRP.trans hq_19
  have hKP := hKP.trans kp_20 (by decide) (by decide)
  have br_13 := wf_free r_13
  refine lv_iload_n G0.1 G0.2.1 dX8_take_4 rfl (lv_at hl 1 rfl) ?_
  refine lv_icmp_eq (tgt := 10) G0.1 G0.2.1 dX8_take_5 (by decide) (fun c_21 => ?_) (fun c_21 => ?_)
  · skip
    have tc_21 := ti_eq c_21
    refine lv_aload_n G0.1 G0.2.1 dX8_take_10 rfl (lv_at hl 0 rfl) ?_
    refine lv_dup G0.1 G0.2.1 dX8_take_11 rfl ?_
    obtain ⟨v_22, v_23, v_24, hr_27, b_25, b_26⟩ := wg_8 hWF Tt
    have bv_24 := wf_free v_24
    have tq_28 := tp_eq hr_27
    refine py_get (C := RX8) (T := TX8) (N := 4) (k := 2) (v := .int v_23) G0 hw in_X8_take_X8 rfl hr_27 (by decide) (by decide +kernel) rfl dX8_take_12 ?_
    refine lv_iconst (v := 1) G0.1 G0.2.1 dX8_take_15 (by decide) ?_
    refine lv_iadd G0.1 G0.2.1 dX8_take_16 ?_
    refine lv_topi (fun x_29 ex_29 => ?_)
    first | have tx_29 := ti_add ex_29 (by omega) (by omega) | skip
    refine py_put (C := RX8) (T := TX8) (N := 4) (k := 2) (v := .int x_29) (fs' := [.ref (G.2 t 0), .int v_22, .int x_29, .int v_24]) (ty0 := tyX8) G0 hw tyX8_ok nmX8 in_X8_take_X8 rfl hr_27 (by decide) (by decide +kernel) rfl rfl rfl rfl (Nat.le_of_ble_eq_true rfl) rfl dX8_take_17 (fun f_30 H_31 locs h_32 x_33 hw => ?_)
    have hTB := (gfn_kp (kp_f (KP.refl.upd hWF x_33 Tt (Or.inl (by decide)) : KP G [9] false f_10 f_30) (wt_8 hG Tt) (by decide) (by decide) (fun _ => by decide))).trans hTB
    have hKP := hKP.upd hWF x_33 Tt (Or.inl (by decide))
    have hRP := hRP.trans (rp_upd hG hWF x_33 hr_27.2 h_32.2 (rp_code hG Tt (by decide)) rfl)
    have hWF := wf_upd hWF h_32 x_33 (by rw [Tt]; exact ⟨v_22, x_29, v_24, rfl, ⟨by omega, by omega⟩, ⟨by omega, by omega⟩⟩)
    have tq_34 := tp_eq h_32
    refine lv_iconst (v := 1) G0.1 G0.2.1 dX8_take_20 (by decide) ?_
    exact py_iret G0 hr rfl hlk hw ⟨⟨by omega, by omega⟩, (by first | omega | (intro q; omega)), (by first | omega | (intro q; omega)), (by first | omega | (intro q; omega)), (by first | omega | (intro q; omega)), hWF, hRP, hKP⟩ dX8_take_21
  · skip
    have tc_21 := ti_ne c_21
    refine lv_iconst (v := 0) G0.1 G0.2.1 dX8_take_8 (by decide) ?_
    obtain ⟨v_35, v_36, v_37, hr_40, b_38, b_39⟩ := wg_8 hWF Tt
    have bv_37 := wf_free v_37
    have tq_41 := tp_eq hr_40
    exact py_iret G0 hr rfl hlk hw ⟨⟨by omega, by omega⟩, (by first | omega | (intro q; omega)), (by first | omega | (intro q; omega)), (by first | omega | (intro q; omega)), (by first | omega | (intro q; omega)), hWF, hRP, hKP⟩ dX8_take_9

def w_X8_takeNumber : List Cond := .code yX8_takeNumber cX8_takeNumber 3 (some .boolean) :: ([Cond.methodLink RX8 23 yX8_next, Cond.instanceMethod yX8_next, Cond.selects RX8 yX8_next yX8_next, Cond.initialized RX8, Cond.fieldLink RX8 17 "HeadYear$Tape" "at" "I", Cond.fieldLink RX8 20 "HeadYear$Tape" "number" "I", Cond.methodLink RX8 27 yX8_isDigitHere, Cond.instanceMethod yX8_isDigitHere, Cond.selects RX8 yX8_isDigitHere yX8_isDigitHere, Cond.fieldLink RX8 9 "HeadYear$Tape" "bytes" "[I"] ++ (u_ws RX8 TX8 4 ++ (w_X8_next ++ (w_X8_isDigitHere ++ ([])))))
theorem in_X8_takeNumber_X8 : ∀ w ∈ u_ws RX8 TX8 4, w ∈ w_X8_takeNumber := fun _ h => List.mem_cons_of_mem _ (List.mem_append_right _ (List.mem_append_left _ h))
theorem gg_X8_takeNumber_X8_next : GoodIn w_X8_takeNumber w_X8_next := goodIn_sub (fun _ h => List.mem_cons_of_mem _ (List.mem_append_right _ (List.mem_append_right _ (List.mem_append_left _ h)))) (by decide +kernel)
theorem gg_X8_takeNumber_X8_isDigitHere : GoodIn w_X8_takeNumber w_X8_isDigitHere := goodIn_sub (fun _ h => List.mem_cons_of_mem _ (List.mem_append_right _ (List.mem_append_right _ (List.mem_append_right _ (List.mem_append_left _ h))))) (by decide +kernel)
theorem g_X8_takeNumber_X8_isDigitHere_27 : GoodIn w_X8_takeNumber (wsV RX8 27 RX8 yX8_isDigitHere w_X8_isDigitHere) := goodIn_app (goodIn_of _ (by decide +kernel)) gg_X8_takeNumber_X8_isDigitHere
theorem g_X8_takeNumber_X8_next_23 : GoodIn w_X8_takeNumber (wsV RX8 23 RX8 yX8_next w_X8_next) := goodIn_app (goodIn_of _ (by decide +kernel)) gg_X8_takeNumber_X8_next
set_option maxHeartbeats 4000000 in
set_option maxRecDepth 100000 in
theorem c_X8_takeNumber (l : Launch) (E : py_E) (G : wf_G) (L : List Nat) (f : py_F) (sz : Nat) (t : Nat) (a : Int32) (gb : rs_B) (nb : Int) (pb : Int) (mb : Nat) (hG : GT G) (hWF : WF E G L f) (Tt : G.1 t = 9) (Ba : (0 ≤ a.toInt ∧ a.toInt ≤ 4)) (hp0 : a.toInt = ((mb : Nat) : Int)) (hp1 : tp_l f t = nb ∧ tp_a f t = pb) (hp2 : 0 ≤ pb ∧ nb ≤ 160) (hq0 : gfn f (G.2 t 0) = gb) : Met l yX8_takeNumber w_X8_takeNumber ({ frames := 1, cells := 0, slots := 0, locals := 20 }) (py_Pc E [.ref t, .int a] L f sz) (py_Qi E L f sz (fun r L1 f1 => (0 ≤ r.toInt ∧ r.toInt ≤ 1) ∧ (r.toInt ≠ 0 → 1 ≤ tp_a f1 t) ∧ (tp_l f1 t = nb) ∧ (pb ≤ rs_sk gb nb pb ∧ rs_sk gb nb pb ≤ tp_a f1 t) ∧ (r.toInt ≠ 0 → rs_sk gb nb pb + 1 ≤ tp_a f1 t) ∧ (tp_a f1 t ≤ nb ∨ tp_a f1 t = rs_sk gb nb pb) ∧ (tp_n f1 t = (rs_nm gb nb mb (rs_sk gb nb pb) 0).1) ∧ (r.toInt = (rs_num gb nb mb (rs_sk gb nb pb)).1 ∧ tp_a f1 t = (rs_num gb nb mb (rs_sk gb nb pb)).2) ∧ WF E G L1 f1 ∧ RP E G f f1 ∧ KP G [9] false f f1)) 0 0 (va_A (va_pl L f) sz) := by
  refine Met.ofW (cc := cX8_takeNumber) (maxL := 3) (ret := (some .boolean)) (by decide) rfl ?_
  intro p e s m args below meth c s₁ B hml hv
  obtain ⟨rfl, rfl, hw⟩ := py_start hv
  have G0 : CallFix p m c cX8_takeNumber 3 s _ w_X8_takeNumber RX8 := ⟨B.exec, B.bytes, hml, findClass_of_methodNamed B.named, atoms_spec (ws := w_X8_takeNumber) B.pre⟩
  have hr := B.returns
  have hlk := B.notSynchronized
  have kcm1 : (-1 : Int32).toInt = -1 := rfl
  have kc0 : (0 : Int32).toInt = 0 := rfl
  have kc1 : (1 : Int32).toInt = 1 := rfl
  have kc10 : (10 : Int32).toInt = 10 := rfl
  have kc48 : (48 : Int32).toInt = 48 := rfl
  have hl := lv_entry ([.ref t, .int a]) (n := 3) (Nat.le_of_ble_eq_true rfl)
  rw [lg_entry_eq]
  generalize (lg_sl ([.ref t, .int a]) ++ List.replicate (3 - (lg_sl ([.ref t, .int a])).length) Slot.unset).toArray = ls at hl ⊢
  have hl : lv_has ls 3 [(0, .ref t), (1, .int a)] := hl
  have hRP : RP E G f f := RP.refl
  have hKP : KP G [9] false f f := KP.refl
  have hTB := hq0
  refine lv_aload_n G0.1 G0.2.1 dX8_takeNumber_0 rfl (lv_at hl 0 rfl) ?_
  have t_1 := wt_8 hG Tt
  obtain ⟨v_2, v_3, v_4, hr_7, b_5, b_6⟩ := wg_8 hWF Tt
  have bv_4 := wf_free v_4
  have tq_8 := tp_eq hr_7
  refine py_calli hw (va_runV (As := []) (rest := []) G0 (c_X8_next l E G L f s.heap.size t gb nb pb hG hWF Tt (show tp_l f t = nb ∧ tp_a f t = pb by omega) (show 0 ≤ pb ∧ nb ≤ 160 by omega) hTB) (cwV 0 G0.2.2.2.2 g_X8_takeNumber_X8_next_23 rfl rfl rfl (by decide +kernel) ⟨(Nat.le_of_ble_eq_true rfl), (Nat.le_of_ble_eq_true rfl)⟩) (py_preV hw (C := RX8) (T := TX8) (N := 4) rfl hr_7) rfl rfl hl.1 rfl (lv_room (Nat.le_of_ble_eq_true rfl)) dX8_takeNumber_1 ⟨(Nat.le_of_ble_eq_true rfl), (Nat.le_of_ble_eq_true rfl)⟩) (fun r_13 L_9 f_10 H_11 locs hp_12 hw => ?_)
  obtain ⟨en_14, en_15, en_16, en_17, en_18, hWF, hq_19, kp_20⟩ := hp_12
  have hTB := (gfn_kp (kp_f kp_20 (wt_8 hG Tt) (by decide) (by decide) (fun _ => by decide))).trans hTB
  have hRP := hRP.trans hq_19
  have hKP := hKP.trans kp_20 (by decide) (by decide)
  have br_13 := wf_free r_13
  refine lv_pop G0.1 G0.2.1 dX8_takeNumber_4 rfl ?_
  refine lv_aload_n G0.1 G0.2.1 dX8_takeNumber_5 rfl (lv_at hl 0 rfl) ?_
  obtain ⟨v_21, v_22, v_23, hr_26, b_24, b_25⟩ := wg_8 hWF Tt
  have bv_23 := wf_free v_23
  have tq_27 := tp_eq hr_26
  refine py_get (C := RX8) (T := TX8) (N := 4) (k := 2) (v := .int v_22) G0 hw in_X8_takeNumber_X8 rfl hr_26 (by decide) (by decide +kernel) rfl dX8_takeNumber_6 ?_
  refine lv_istore_n (lv' := [(2, .int v_22), (0, .ref t), (1, .int a)]) G0.1 G0.2.1 dX8_takeNumber_9 rfl hl (by decide) rfl (fun ls hl => ?_)
  refine lv_aload_n G0.1 G0.2.1 dX8_takeNumber_10 rfl (lv_at hl 1 rfl) ?_
  refine lv_iconst (v := 0) G0.1 G0.2.1 dX8_takeNumber_11 (by decide) ?_
  refine py_put (C := RX8) (T := TX8) (N := 4) (k := 3) (v := .int 0) (fs' := [.ref (G.2 t 0), .int v_21, .int v_22, .int 0]) (ty0 := tyX8) G0 hw tyX8_ok nmX8 in_X8_takeNumber_X8 rfl hr_26 (by decide) (by decide +kernel) rfl rfl rfl rfl (Nat.le_of_ble_eq_true rfl) rfl dX8_takeNumber_12 (fun f_28 H_29 locs h_30 x_31 hw => ?_)
  have hTB := (gfn_kp (kp_f (KP.refl.upd hWF x_31 Tt (Or.inl (by decide)) : KP G [9] false f_10 f_28) (wt_8 hG Tt) (by decide) (by decide) (fun _ => by decide))).trans hTB
  have hKP := hKP.upd hWF x_31 Tt (Or.inl (by decide))
  have hRP := hRP.trans (rp_upd hG hWF x_31 hr_26.2 h_30.2 (rp_code hG Tt (by decide)) rfl)
  have hWF := wf_upd hWF h_30 x_31 (by rw [Tt]; exact ⟨v_21, v_22, 0, rfl, ⟨by omega, by omega⟩, ⟨by omega, by omega⟩⟩)
  have tq_32 := tp_eq h_30
  have lo_15 : ∀ n_15 : Nat, ∀ (L_j15 : List Nat) (f_j15 : py_F) (H_j15 : Heap) (locs : List Loc) (ls : Array Slot), (tp_l f_j15 t - tp_a f_j15 t).toNat = n_15 → WF E G L_j15 f_j15 → RP E G f f_j15 → KP G [9] false f f_j15 → gfn f_j15 (G.2 t 0) = gb → (tp_l f_j15 t = nb) → (pb ≤ rs_sk gb nb pb) → (rs_sk gb nb pb ≤ tp_a f_j15 t ∧ tp_a f_j15 t ≤ rs_sk gb nb pb + mb ∧ (tp_a f_j15 t ≤ nb ∨ tp_a f_j15 t = rs_sk gb nb pb)) → (rs_rb (tp_a f_j15 t - rs_sk gb nb pb) (tp_n f_j15 t)) → (rs_nm gb nb mb (rs_sk gb nb pb) 0 = rs_nm gb nb (rs_sk gb nb pb + mb - tp_a f_j15 t).toNat (tp_a f_j15 t) (tp_n f_j15 t)) → py_W E (va_A (va_pl L f) s.heap.size) s L_j15 f_j15 H_j15 locs → lv_has ls 3 [(2, .int v_22), (0, .ref t), (1, .int a)] → W p l e (headSpec w_X8_takeNumber ({ frames := 1, cells := 0, slots := 0, locals := 20 })).room s m ([.ref t, .int a] : List Value).toArray below meth c H_j15 locs 0 0 (MQ below (py_Qi E L f s.heap.size (fun r L1 f1 => (0 ≤ r.toInt ∧ r.toInt ≤ 1) ∧ (r.toInt ≠ 0 → 1 ≤ tp_a f1 t) ∧ (tp_l f1 t = nb) ∧ (pb ≤ rs_sk gb nb pb ∧ rs_sk gb nb pb ≤ tp_a f1 t) ∧ (r.toInt ≠ 0 → rs_sk gb nb pb + 1 ≤ tp_a f1 t) ∧ (tp_a f1 t ≤ nb ∨ tp_a f1 t = rs_sk gb nb pb) ∧ (tp_n f1 t = (rs_nm gb nb mb (rs_sk gb nb pb) 0).1) ∧ (r.toInt = (rs_num gb nb mb (rs_sk gb nb pb)).1 ∧ tp_a f1 t = (rs_num gb nb mb (rs_sk gb nb pb)).2) ∧ WF E G L1 f1 ∧ RP E G f f1 ∧ KP G [9] false f f1)) ([.ref t, .int a] : List Value).toArray s 0 0 (va_A (va_pl L f) s.heap.size)) (F0 m 15 ls []) := by
    intro n_15
    induction n_15 using Nat.strongRecOn with
    | _ n_15 ih_15 =>
      intro L_j15 f_j15 H_j15 locs ls hn_15 hWF hRP hKP hTB iv0 iv1 iv2 iv3 iv4 hw hl
      have hrb := rs_rb_le iv3
      refine lv_aload_n G0.1 G0.2.1 dX8_takeNumber_15 rfl (lv_at hl 1 rfl) ?_
      obtain ⟨v_33, v_34, v_35, hr_38, b_36, b_37⟩ := wg_8 hWF Tt
      have bv_35 := wf_free v_35
      have tq_39 := tp_eq hr_38
      refine py_get (C := RX8) (T := TX8) (N := 4) (k := 2) (v := .int v_34) G0 hw in_X8_takeNumber_X8 rfl hr_38 (by decide) (by decide +kernel) rfl dX8_takeNumber_16 ?_
      refine lv_iload_n G0.1 G0.2.1 dX8_takeNumber_19 rfl (lv_at hl 0 rfl) ?_
      refine lv_iload_n G0.1 G0.2.1 dX8_takeNumber_20 rfl (lv_at hl 2 rfl) ?_
      refine lv_iadd G0.1 G0.2.1 dX8_takeNumber_21 ?_
      refine lv_topi (fun x_40 ex_40 => ?_)
      first | have tx_40 := ti_add ex_40 (by omega) (by omega) | skip
      refine lv_icmp_ge (tgt := 69) G0.1 G0.2.1 dX8_takeNumber_22 (by decide) (fun c_41 => ?_) (fun c_41 => ?_)
      · skip
        have tc_41 := ti_le c_41
        have hnm : rs_nm gb nb mb (rs_sk gb nb pb) 0 = (tp_n f_j15 t, tp_a f_j15 t) := rs_nm_fin iv4 (by first | exact Or.inl (by omega) | exact Or.inr (by omega))
        refine lv_aload_n G0.1 G0.2.1 dX8_takeNumber_69 rfl (lv_at hl 1 rfl) ?_
        refine py_get (C := RX8) (T := TX8) (N := 4) (k := 2) (v := .int v_34) G0 hw in_X8_takeNumber_X8 rfl hr_38 (by decide) (by decide +kernel) rfl dX8_takeNumber_70 ?_
        refine lv_iload_n G0.1 G0.2.1 dX8_takeNumber_73 rfl (lv_at hl 0 rfl) ?_
        refine lv_icmp_le (tgt := 88) G0.1 G0.2.1 dX8_takeNumber_74 (by decide) (fun c_42 => ?_) (fun c_42 => ?_)
        · skip
          have tc_42 := ti_le c_42
          refine lv_iconst (v := 0) G0.1 G0.2.1 dX8_takeNumber_88 (by decide) ?_
          exact py_iret G0 hr rfl hlk hw ⟨⟨by omega, by omega⟩, (by first | omega | (intro q; omega)), (by first | omega | (intro q; omega)), (by first | omega | (intro q; omega)), (by first | omega | (intro q; omega)), (by first | omega | (intro q; omega)), (by rw [hnm]), (by first | exact rs_eq (rs_num_y hnm (by omega) (by omega)) (by omega) (by omega) | exact rs_eq (rs_num_z hnm (by omega)) (by omega) (by omega)), hWF, hRP, hKP⟩ dX8_takeNumber_89
        · skip
          have tc_42 := ti_nle c_42
          refine lv_aload_n G0.1 G0.2.1 dX8_takeNumber_77 rfl (lv_at hl 1 rfl) ?_
          refine py_calli hw (va_runV (As := []) (rest := []) G0 (c_X8_isDigitHere l E G L_j15 f_j15 H_j15.size t gb nb (tp_a f_j15 t) hG hWF Tt (show tp_l f_j15 t = nb ∧ tp_a f_j15 t = (tp_a f_j15 t) by omega) (show 0 ≤ (tp_a f_j15 t) ∧ nb ≤ 160 by omega) hTB) (cwV 0 G0.2.2.2.2 g_X8_takeNumber_X8_isDigitHere_27 rfl rfl rfl (by decide +kernel) ⟨(Nat.le_of_ble_eq_true rfl), (Nat.le_of_ble_eq_true rfl)⟩) (py_preV hw (C := RX8) (T := TX8) (N := 4) rfl hr_38) rfl rfl hl.1 rfl (lv_room (Nat.le_of_ble_eq_true rfl)) dX8_takeNumber_78 ⟨(Nat.le_of_ble_eq_true rfl), (Nat.le_of_ble_eq_true rfl)⟩) (fun r_47 L_43 f_44 H_45 locs hp_46 hw => ?_)
          obtain ⟨b_50, en_48, en_49, rfl, rfl⟩ := hp_46
          refine lv_if_ne (tgt := 88) G0.1 G0.2.1 dX8_takeNumber_81 (by decide) (fun c_51 => ?_) (fun c_51 => ?_)
          · skip
            have tc_51 := ti_ne c_51
            replace en_48 := en_48 (by omega)
            refine lv_iconst (v := 0) G0.1 G0.2.1 dX8_takeNumber_88 (by decide) ?_
            exact py_iret G0 hr rfl hlk hw ⟨⟨by omega, by omega⟩, (by first | omega | (intro q; omega)), (by first | omega | (intro q; omega)), (by first | omega | (intro q; omega)), (by first | omega | (intro q; omega)), (by first | omega | (intro q; omega)), (by rw [hnm]), (by first | exact rs_eq (rs_num_y hnm (by omega) (by omega)) (by omega) (by omega) | exact rs_eq (rs_num_z hnm (by omega)) (by omega) (by omega)), hWF, hRP, hKP⟩ dX8_takeNumber_89
          · skip
            have tc_51 := ti_eq c_51
            clear en_48
            refine lv_iconst (v := 1) G0.1 G0.2.1 dX8_takeNumber_84 (by decide) ?_
            refine lv_goto (tgt := 89) G0.1 G0.2.1 dX8_takeNumber_85 (by decide) ?_
            exact py_iret G0 hr rfl hlk hw ⟨⟨by omega, by omega⟩, (by first | omega | (intro q; omega)), (by first | omega | (intro q; omega)), (by first | omega | (intro q; omega)), (by first | omega | (intro q; omega)), (by first | omega | (intro q; omega)), (by rw [hnm]), (by first | exact rs_eq (rs_num_y hnm (by omega) (by omega)) (by omega) (by omega) | exact rs_eq (rs_num_z hnm (by omega)) (by omega) (by omega)), hWF, hRP, hKP⟩ dX8_takeNumber_89
      · skip
        have tc_41 := ti_nle c_41
        refine lv_aload_n G0.1 G0.2.1 dX8_takeNumber_25 rfl (lv_at hl 1 rfl) ?_
        refine py_calli hw (va_runV (As := []) (rest := []) G0 (c_X8_isDigitHere l E G L_j15 f_j15 H_j15.size t gb nb (tp_a f_j15 t) hG hWF Tt (show tp_l f_j15 t = nb ∧ tp_a f_j15 t = (tp_a f_j15 t) by omega) (show 0 ≤ (tp_a f_j15 t) ∧ nb ≤ 160 by omega) hTB) (cwV 0 G0.2.2.2.2 g_X8_takeNumber_X8_isDigitHere_27 rfl rfl rfl (by decide +kernel) ⟨(Nat.le_of_ble_eq_true rfl), (Nat.le_of_ble_eq_true rfl)⟩) (py_preV hw (C := RX8) (T := TX8) (N := 4) rfl hr_38) rfl rfl hl.1 rfl (lv_room (Nat.le_of_ble_eq_true rfl)) dX8_takeNumber_26 ⟨(Nat.le_of_ble_eq_true rfl), (Nat.le_of_ble_eq_true rfl)⟩) (fun r_56 L_52 f_53 H_54 locs hp_55 hw => ?_)
        obtain ⟨b_59, en_57, en_58, rfl, rfl⟩ := hp_55
        refine lv_if_eq (tgt := 69) G0.1 G0.2.1 dX8_takeNumber_29 (by decide) (fun c_60 => ?_) (fun c_60 => ?_)
        · skip
          have tc_60 := ti_eq c_60
          clear en_57
          have hnm : rs_nm gb nb mb (rs_sk gb nb pb) 0 = (tp_n f_j15 t, tp_a f_j15 t) := rs_nm_fin iv4 (by first | exact Or.inl (by omega) | exact Or.inr (by omega))
          refine lv_aload_n G0.1 G0.2.1 dX8_takeNumber_69 rfl (lv_at hl 1 rfl) ?_
          refine py_get (C := RX8) (T := TX8) (N := 4) (k := 2) (v := .int v_34) G0 hw in_X8_takeNumber_X8 rfl hr_38 (by decide) (by decide +kernel) rfl dX8_takeNumber_70 ?_
          refine lv_iload_n G0.1 G0.2.1 dX8_takeNumber_73 rfl (lv_at hl 0 rfl) ?_
          refine lv_icmp_le (tgt := 88) G0.1 G0.2.1 dX8_takeNumber_74 (by decide) (fun c_61 => ?_) (fun c_61 => ?_)
          · skip
            have tc_61 := ti_le c_61
            refine lv_iconst (v := 0) G0.1 G0.2.1 dX8_takeNumber_88 (by decide) ?_
            exact py_iret G0 hr rfl hlk hw ⟨⟨by omega, by omega⟩, (by first | omega | (intro q; omega)), (by first | omega | (intro q; omega)), (by first | omega | (intro q; omega)), (by first | omega | (intro q; omega)), (by first | omega | (intro q; omega)), (by rw [hnm]), (by first | exact rs_eq (rs_num_y hnm (by omega) (by omega)) (by omega) (by omega) | exact rs_eq (rs_num_z hnm (by omega)) (by omega) (by omega)), hWF, hRP, hKP⟩ dX8_takeNumber_89
          · skip
            have tc_61 := ti_nle c_61
            refine lv_aload_n G0.1 G0.2.1 dX8_takeNumber_77 rfl (lv_at hl 1 rfl) ?_
            refine py_calli hw (va_runV (As := []) (rest := []) G0 (c_X8_isDigitHere l E G L_j15 f_j15 H_54.size t gb nb (tp_a f_j15 t) hG hWF Tt (show tp_l f_j15 t = nb ∧ tp_a f_j15 t = (tp_a f_j15 t) by omega) (show 0 ≤ (tp_a f_j15 t) ∧ nb ≤ 160 by omega) hTB) (cwV 0 G0.2.2.2.2 g_X8_takeNumber_X8_isDigitHere_27 rfl rfl rfl (by decide +kernel) ⟨(Nat.le_of_ble_eq_true rfl), (Nat.le_of_ble_eq_true rfl)⟩) (py_preV hw (C := RX8) (T := TX8) (N := 4) rfl hr_38) rfl rfl hl.1 rfl (lv_room (Nat.le_of_ble_eq_true rfl)) dX8_takeNumber_78 ⟨(Nat.le_of_ble_eq_true rfl), (Nat.le_of_ble_eq_true rfl)⟩) (fun r_66 L_62 f_63 H_64 locs hp_65 hw => ?_)
            obtain ⟨b_69, en_67, en_68, rfl, rfl⟩ := hp_65
            refine lv_if_ne (tgt := 88) G0.1 G0.2.1 dX8_takeNumber_81 (by decide) (fun c_70 => ?_) (fun c_70 => ?_)
            · skip
              have tc_70 := ti_ne c_70
              replace en_67 := en_67 (by omega)
              refine lv_iconst (v := 0) G0.1 G0.2.1 dX8_takeNumber_88 (by decide) ?_
              exact py_iret G0 hr rfl hlk hw ⟨⟨by omega, by omega⟩, (by first | omega | (intro q; omega)), (by first | omega | (intro q; omega)), (by first | omega | (intro q; omega)), (by first | omega | (intro q; omega)), (by first | omega | (intro q; omega)), (by rw [hnm]), (by first | exact rs_eq (rs_num_y hnm (by omega) (by omega)) (by omega) (by omega) | exact rs_eq (rs_num_z hnm (by omega)) (by omega) (by omega)), hWF, hRP, hKP⟩ dX8_takeNumber_89
            · skip
              have tc_70 := ti_eq c_70
              clear en_67
              refine lv_iconst (v := 1) G0.1 G0.2.1 dX8_takeNumber_84 (by decide) ?_
              refine lv_goto (tgt := 89) G0.1 G0.2.1 dX8_takeNumber_85 (by decide) ?_
              exact py_iret G0 hr rfl hlk hw ⟨⟨by omega, by omega⟩, (by first | omega | (intro q; omega)), (by first | omega | (intro q; omega)), (by first | omega | (intro q; omega)), (by first | omega | (intro q; omega)), (by first | omega | (intro q; omega)), (by rw [hnm]), (by first | exact rs_eq (rs_num_y hnm (by omega) (by omega)) (by omega) (by omega) | exact rs_eq (rs_num_z hnm (by omega)) (by omega) (by omega)), hWF, hRP, hKP⟩ dX8_takeNumber_89
        · skip
          have tc_60 := ti_ne c_60
          replace en_57 := en_57 (by omega)
          have hdq := rs_d_eq (rs_v gb nb (tp_a f_j15 t))
          refine lv_aload_n G0.1 G0.2.1 dX8_takeNumber_32 rfl (lv_at hl 1 rfl) ?_
          refine lv_aload_n G0.1 G0.2.1 dX8_takeNumber_33 rfl (lv_at hl 1 rfl) ?_
          refine py_get (C := RX8) (T := TX8) (N := 4) (k := 3) (v := .int v_35) G0 hw in_X8_takeNumber_X8 rfl hr_38 (by decide) (by decide +kernel) rfl dX8_takeNumber_34 ?_
          refine lv_bipush (v := 10) G0.1 G0.2.1 dX8_takeNumber_37 (by decide) ?_
          refine lv_imul G0.1 G0.2.1 dX8_takeNumber_39 ?_
          refine lv_topi (fun x_71 ex_71 => ?_)
          first | have tx_71 := ti_mulc ex_71 kc10 (by omega) (by omega) | skip
          refine lv_aload_n G0.1 G0.2.1 dX8_takeNumber_40 rfl (lv_at hl 1 rfl) ?_
          refine py_get (C := RX8) (T := TX8) (N := 4) (k := 0) (v := .ref (G.2 t 0)) G0 hw in_X8_takeNumber_X8 rfl hr_38 (by decide) (by decide +kernel) rfl dX8_takeNumber_41 ?_
          refine lv_aload_n G0.1 G0.2.1 dX8_takeNumber_44 rfl (lv_at hl 1 rfl) ?_
          refine py_get (C := RX8) (T := TX8) (N := 4) (k := 2) (v := .int v_34) G0 hw in_X8_takeNumber_X8 rfl hr_38 (by decide) (by decide +kernel) rfl dX8_takeNumber_45 ?_
          obtain ⟨g_72, ha_73, hi_74⟩ := wf_arr (n := 160) (lo := (-2147483648)) (hi := 2147483647) hWF t_1 (by decide) (fun _ => rfl)
          have rg_75 : vp_in v_34 160 := ti_in (by omega) (by omega)
          refine py_iald G0 hw ha_73 rg_75 dX8_takeNumber_48 ?_
          refine lv_topi (fun x_76 ex_76 => ?_)
          have bx_76 := wf_free x_76
          have vz_77 : rs_v gb nb (tp_a f_j15 t) = x_76.toInt := rs_vl hTB ha_73 ex_76 (by omega) (by omega)
          refine lv_iadd G0.1 G0.2.1 dX8_takeNumber_49 ?_
          refine lv_topi (fun x_78 ex_78 => ?_)
          first | have tx_78 := ti_add ex_78 (by omega) (by omega) | skip
          refine lv_bipush (v := 48) G0.1 G0.2.1 dX8_takeNumber_50 (by decide) ?_
          refine lv_isub G0.1 G0.2.1 dX8_takeNumber_52 ?_
          refine lv_topi (fun x_79 ex_79 => ?_)
          first | have tx_79 := ti_sub ex_79 (by omega) (by omega) | skip
          refine py_put (C := RX8) (T := TX8) (N := 4) (k := 3) (v := .int x_79) (fs' := [.ref (G.2 t 0), .int v_33, .int v_34, .int x_79]) (ty0 := tyX8) G0 hw tyX8_ok nmX8 in_X8_takeNumber_X8 rfl hr_38 (by decide) (by decide +kernel) rfl rfl rfl rfl (Nat.le_of_ble_eq_true rfl) rfl dX8_takeNumber_53 (fun f_80 H_81 locs h_82 x_83 hw => ?_)
          have hTB := (gfn_kp (kp_f (KP.refl.upd hWF x_83 Tt (Or.inl (by decide)) : KP G [9] false f_j15 f_80) (wt_8 hG Tt) (by decide) (by decide) (fun _ => by decide))).trans hTB
          have hKP := hKP.upd hWF x_83 Tt (Or.inl (by decide))
          have hRP := hRP.trans (rp_upd hG hWF x_83 hr_38.2 h_82.2 (rp_code hG Tt (by decide)) rfl)
          have hWF := wf_upd hWF h_82 x_83 (by rw [Tt]; exact ⟨v_33, v_34, x_79, rfl, ⟨by omega, by omega⟩, ⟨by omega, by omega⟩⟩)
          have ha_73 := ha_73.ext x_83 (Ne.symm (py_ne_arr hr_38 ha_73))
          have tq_84 := tp_eq h_82
          refine lv_aload_n G0.1 G0.2.1 dX8_takeNumber_56 rfl (lv_at hl 1 rfl) ?_
          refine lv_dup G0.1 G0.2.1 dX8_takeNumber_57 rfl ?_
          refine py_get (C := RX8) (T := TX8) (N := 4) (k := 2) (v := .int v_34) G0 hw in_X8_takeNumber_X8 rfl h_82 (by decide) (by decide +kernel) rfl dX8_takeNumber_58 ?_
          refine lv_iconst (v := 1) G0.1 G0.2.1 dX8_takeNumber_61 (by decide) ?_
          refine lv_iadd G0.1 G0.2.1 dX8_takeNumber_62 ?_
          refine lv_topi (fun x_85 ex_85 => ?_)
          first | have tx_85 := ti_add ex_85 (by omega) (by omega) | skip
          refine py_put (C := RX8) (T := TX8) (N := 4) (k := 2) (v := .int x_85) (fs' := [.ref (G.2 t 0), .int v_33, .int x_85, .int x_79]) (ty0 := tyX8) G0 hw tyX8_ok nmX8 in_X8_takeNumber_X8 rfl h_82 (by decide) (by decide +kernel) rfl rfl rfl rfl (Nat.le_of_ble_eq_true rfl) rfl dX8_takeNumber_63 (fun f_86 H_87 locs h_88 x_89 hw => ?_)
          have hTB := (gfn_kp (kp_f (KP.refl.upd hWF x_89 Tt (Or.inl (by decide)) : KP G [9] false f_80 f_86) (wt_8 hG Tt) (by decide) (by decide) (fun _ => by decide))).trans hTB
          have hKP := hKP.upd hWF x_89 Tt (Or.inl (by decide))
          have hRP := hRP.trans (rp_upd hG hWF x_89 h_82.2 h_88.2 (rp_code hG Tt (by decide)) rfl)
          have hWF := wf_upd hWF h_88 x_89 (by rw [Tt]; exact ⟨v_33, x_85, x_79, rfl, ⟨by omega, by omega⟩, ⟨by omega, by omega⟩⟩)
          have ha_73 := ha_73.ext x_89 (Ne.symm (py_ne_arr h_82 ha_73))
          have tq_90 := tp_eq h_88
          refine lv_goto (tgt := 15) G0.1 G0.2.1 dX8_takeNumber_66 (by decide) ?_
          exact ih_15 ((tp_l f_86 t - tp_a f_86 t).toNat) (by omega) L_j15 f_86 _ _ ls rfl hWF hRP hKP hTB (by first | omega | (intros; omega)) (by first | omega | (intros; omega)) (by first | omega | (intros; omega)) (rs_rb_on iv3 (c := rs_v gb nb (tp_a f_j15 t)) (by omega) (by omega) (by omega) (by omega) (by omega)) (rs_nm_st iv4 (by omega) (by omega) (by omega) (by omega)) hw (lv_sub hl [0, 1, 2] rfl)
  exact lo_15 _ L_9 f_28 _ _ ls rfl hWF hRP hKP hTB (by first | omega | (intros; omega)) (by first | omega | (intros; omega)) (by first | omega | (intros; omega)) (rs_rb_0 (by omega) (by omega)) (by rw [show (rs_sk gb nb pb + mb - tp_a f_28 t).toNat = mb by omega, show tp_a f_28 t = rs_sk gb nb pb by omega, show tp_n f_28 t = 0 by omega]) hw (lv_sub hl [0, 1, 2] rfl)

def w_X8_takeNumberWithin : List Cond := .code yX8_takeNumberWithin cX8_takeNumberWithin 4 (some .boolean) :: ([Cond.methodLink RX8 31 yX8_takeNumber, Cond.instanceMethod yX8_takeNumber, Cond.selects RX8 yX8_takeNumber yX8_takeNumber, Cond.initialized RX8, Cond.fieldLink RX8 20 "HeadYear$Tape" "number" "I", Cond.fieldLink RX8 17 "HeadYear$Tape" "at" "I"] ++ (u_ws RX8 TX8 4 ++ (w_X8_takeNumber ++ ([]))))
theorem in_X8_takeNumberWithin_X8 : ∀ w ∈ u_ws RX8 TX8 4, w ∈ w_X8_takeNumberWithin := fun _ h => List.mem_cons_of_mem _ (List.mem_append_right _ (List.mem_append_left _ h))
theorem gg_X8_takeNumberWithin_X8_takeNumber : GoodIn w_X8_takeNumberWithin w_X8_takeNumber := goodIn_sub (fun _ h => List.mem_cons_of_mem _ (List.mem_append_right _ (List.mem_append_right _ (List.mem_append_left _ h)))) (by decide +kernel)
theorem g_X8_takeNumberWithin_X8_takeNumber_31 : GoodIn w_X8_takeNumberWithin (wsV RX8 31 RX8 yX8_takeNumber w_X8_takeNumber) := goodIn_app (goodIn_of _ (by decide +kernel)) gg_X8_takeNumberWithin_X8_takeNumber
set_option maxHeartbeats 4000000 in
set_option maxRecDepth 100000 in
theorem c_X8_takeNumberWithin (l : Launch) (E : py_E) (G : wf_G) (L : List Nat) (f : py_F) (sz : Nat) (t : Nat) (a : Int32) (b : Int32) (q : Int32) (gb : rs_B) (nb : Int) (pb : Int) (mb : Nat) (lb : Int) (hb : Int) (hG : GT G) (hWF : WF E G L f) (Tt : G.1 t = 9) (Ba : (0 ≤ a.toInt ∧ a.toInt ≤ 4)) (hp0 : a.toInt = ((mb : Nat) : Int)) (hp1 : b.toInt = lb ∧ q.toInt = hb) (hp2 : tp_l f t = nb ∧ tp_a f t = pb) (hp3 : 0 ≤ pb ∧ nb ≤ 160) (hq0 : gfn f (G.2 t 0) = gb) : Met l yX8_takeNumberWithin w_X8_takeNumberWithin ({ frames := 2, cells := 0, slots := 0, locals := 42 }) (py_Pc E [.ref t, .int a, .int b, .int q] L f sz) (py_Qi E L f sz (fun r L1 f1 => (0 ≤ r.toInt ∧ r.toInt ≤ 1) ∧ (r.toInt ≠ 0 → b.toInt ≤ tp_n f1 t ∧ tp_n f1 t ≤ q.toInt) ∧ (tp_l f1 t = nb) ∧ (r.toInt ≠ 0 → pb + 1 ≤ tp_a f1 t ∧ tp_a f1 t ≤ nb) ∧ (r.toInt ≠ 0 → tp_n f1 t = (rs_nm gb nb mb (rs_sk gb nb pb) 0).1) ∧ (pb ≤ tp_a f1 t) ∧ (r.toInt = (rv_num gb nb mb lb hb (rs_sk gb nb pb)).1 ∧ tp_a f1 t = (rv_num gb nb mb lb hb (rs_sk gb nb pb)).2) ∧ WF E G L1 f1 ∧ RP E G f f1 ∧ KP G [9] false f f1)) 0 0 (va_A (va_pl L f) sz) := by
  refine Met.ofW (cc := cX8_takeNumberWithin) (maxL := 4) (ret := (some .boolean)) (by decide) rfl ?_
  intro p e s m args below meth c s₁ B hml hv
  obtain ⟨rfl, rfl, hw⟩ := py_start hv
  have G0 : CallFix p m c cX8_takeNumberWithin 4 s _ w_X8_takeNumberWithin RX8 := ⟨B.exec, B.bytes, hml, findClass_of_methodNamed B.named, atoms_spec (ws := w_X8_takeNumberWithin) B.pre⟩
  have hr := B.returns
  have hlk := B.notSynchronized
  have kcm1 : (-1 : Int32).toInt = -1 := rfl
  have kc0 : (0 : Int32).toInt = 0 := rfl
  have kc1 : (1 : Int32).toInt = 1 := rfl
  have hl := lv_entry ([.ref t, .int a, .int b, .int q]) (n := 4) (Nat.le_of_ble_eq_true rfl)
  rw [lg_entry_eq]
  generalize (lg_sl ([.ref t, .int a, .int b, .int q]) ++ List.replicate (4 - (lg_sl ([.ref t, .int a, .int b, .int q])).length) Slot.unset).toArray = ls at hl ⊢
  have hl : lv_has ls 4 [(0, .ref t), (1, .int a), (2, .int b), (3, .int q)] := hl
  have hRP : RP E G f f := RP.refl
  have hKP : KP G [9] false f f := KP.refl
  have hTB := hq0
  refine lv_aload_n G0.1 G0.2.1 dX8_takeNumberWithin_0 rfl (lv_at hl 0 rfl) ?_
  refine lv_iload_n G0.1 G0.2.1 dX8_takeNumberWithin_1 rfl (lv_at hl 1 rfl) ?_
  have t_1 := wt_8 hG Tt
  obtain ⟨v_2, v_3, v_4, hr_7, b_5, b_6⟩ := wg_8 hWF Tt
  have bv_4 := wf_free v_4
  have tq_8 := tp_eq hr_7
  refine py_calli hw (va_runV (As := [.int a]) (rest := []) G0 (c_X8_takeNumber l E G L f s.heap.size t a gb nb pb mb hG hWF Tt ⟨by omega, by omega⟩ (show a.toInt = ((mb : Nat) : Int) by omega) (show tp_l f t = nb ∧ tp_a f t = pb by omega) (show 0 ≤ pb ∧ nb ≤ 160 by omega) hTB) (cwV 1 G0.2.2.2.2 g_X8_takeNumberWithin_X8_takeNumber_31 rfl rfl rfl (by decide +kernel) ⟨(Nat.le_of_ble_eq_true rfl), (Nat.le_of_ble_eq_true rfl)⟩) (py_preV hw (C := RX8) (T := TX8) (N := 4) rfl hr_7) rfl rfl hl.1 rfl (lv_room (Nat.le_of_ble_eq_true rfl)) dX8_takeNumberWithin_2 ⟨(Nat.le_of_ble_eq_true rfl), (Nat.le_of_ble_eq_true rfl)⟩) (fun r_13 L_9 f_10 H_11 locs hp_12 hw => ?_)
  obtain ⟨b_21, en_14, en_15, en_16, en_17, en_18, en_19, en_20, hWF, hq_22, kp_23⟩ := hp_12
  have hTB := (gfn_kp (kp_f kp_23 (wt_8 hG Tt) (by decide) (by decide) (fun _ => by decide))).trans hTB
  have hRP := hRP.trans hq_22
  have hKP := hKP.trans kp_23 (by decide) (by decide)
  refine lv_if_ne (tgt := 10) G0.1 G0.2.1 dX8_takeNumberWithin_5 (by decide) (fun c_24 => ?_) (fun c_24 => ?_)
  · skip
    have tc_24 := ti_ne c_24
    replace en_14 := en_14 (by omega)
    replace en_17 := en_17 (by omega)
    refine lv_aload_n G0.1 G0.2.1 dX8_takeNumberWithin_10 rfl (lv_at hl 0 rfl) ?_
    obtain ⟨v_25, v_26, v_27, hr_30, b_28, b_29⟩ := wg_8 hWF Tt
    have bv_27 := wf_free v_27
    have tq_31 := tp_eq hr_30
    refine py_get (C := RX8) (T := TX8) (N := 4) (k := 3) (v := .int v_27) G0 hw in_X8_takeNumberWithin_X8 rfl hr_30 (by decide) (by decide +kernel) rfl dX8_takeNumberWithin_11 ?_
    refine lv_iload_n G0.1 G0.2.1 dX8_takeNumberWithin_14 rfl (lv_at hl 2 rfl) ?_
    refine lv_icmp_lt (tgt := 26) G0.1 G0.2.1 dX8_takeNumberWithin_15 (by decide) (fun c_32 => ?_) (fun c_32 => ?_)
    · skip
      have tc_32 := ti_lt c_32
      refine lv_aload_n G0.1 G0.2.1 dX8_takeNumberWithin_26 rfl (lv_at hl 0 rfl) ?_
      refine lv_dup G0.1 G0.2.1 dX8_takeNumberWithin_27 rfl ?_
      refine py_get (C := RX8) (T := TX8) (N := 4) (k := 2) (v := .int v_26) G0 hw in_X8_takeNumberWithin_X8 rfl hr_30 (by decide) (by decide +kernel) rfl dX8_takeNumberWithin_28 ?_
      refine lv_iconst (v := 1) G0.1 G0.2.1 dX8_takeNumberWithin_31 (by decide) ?_
      refine lv_isub G0.1 G0.2.1 dX8_takeNumberWithin_32 ?_
      refine lv_topi (fun x_33 ex_33 => ?_)
      first | have tx_33 := ti_sub ex_33 (by omega) (by omega) | skip
      refine py_put (C := RX8) (T := TX8) (N := 4) (k := 2) (v := .int x_33) (fs' := [.ref (G.2 t 0), .int v_25, .int x_33, .int v_27]) (ty0 := tyX8) G0 hw tyX8_ok nmX8 in_X8_takeNumberWithin_X8 rfl hr_30 (by decide) (by decide +kernel) rfl rfl rfl rfl (Nat.le_of_ble_eq_true rfl) rfl dX8_takeNumberWithin_33 (fun f_34 H_35 locs h_36 x_37 hw => ?_)
      have hTB := (gfn_kp (kp_f (KP.refl.upd hWF x_37 Tt (Or.inl (by decide)) : KP G [9] false f_10 f_34) (wt_8 hG Tt) (by decide) (by decide) (fun _ => by decide))).trans hTB
      have hKP := hKP.upd hWF x_37 Tt (Or.inl (by decide))
      have hRP := hRP.trans (rp_upd hG hWF x_37 hr_30.2 h_36.2 (rp_code hG Tt (by decide)) rfl)
      have hWF := wf_upd hWF h_36 x_37 (by rw [Tt]; exact ⟨v_25, x_33, v_27, rfl, ⟨by omega, by omega⟩, ⟨by omega, by omega⟩⟩)
      have tq_38 := tp_eq h_36
      refine lv_iconst (v := 0) G0.1 G0.2.1 dX8_takeNumberWithin_36 (by decide) ?_
      exact py_iret G0 hr rfl hlk hw ⟨⟨by omega, by omega⟩, (by first | omega | (intro q; omega)), (by first | omega | (intro q; omega)), (by first | omega | (intro q; omega)), (by first | omega | (intro q; omega)), (by first | omega | (intro q; omega)), (by first | exact rs_eqw (rv_num_0 (by omega)) (by omega) (by omega) | exact rs_eq (rv_num_o (by omega) (by omega)) (by omega) (by omega) | exact rs_eq (rv_num_i (by omega) (by omega)) (by omega) (by omega)), hWF, hRP, hKP⟩ dX8_takeNumberWithin_37
    · skip
      have tc_32 := ti_nlt c_32
      refine lv_aload_n G0.1 G0.2.1 dX8_takeNumberWithin_18 rfl (lv_at hl 0 rfl) ?_
      refine py_get (C := RX8) (T := TX8) (N := 4) (k := 3) (v := .int v_27) G0 hw in_X8_takeNumberWithin_X8 rfl hr_30 (by decide) (by decide +kernel) rfl dX8_takeNumberWithin_19 ?_
      refine lv_iload_n G0.1 G0.2.1 dX8_takeNumberWithin_22 rfl (lv_at hl 3 rfl) ?_
      refine lv_icmp_le (tgt := 38) G0.1 G0.2.1 dX8_takeNumberWithin_23 (by decide) (fun c_39 => ?_) (fun c_39 => ?_)
      · skip
        have tc_39 := ti_le c_39
        refine lv_iconst (v := 1) G0.1 G0.2.1 dX8_takeNumberWithin_38 (by decide) ?_
        exact py_iret G0 hr rfl hlk hw ⟨⟨by omega, by omega⟩, (by first | omega | (intro q; omega)), (by first | omega | (intro q; omega)), (by first | omega | (intro q; omega)), (by first | omega | (intro q; omega)), (by first | omega | (intro q; omega)), (by first | exact rs_eqw (rv_num_0 (by omega)) (by omega) (by omega) | exact rs_eq (rv_num_o (by omega) (by omega)) (by omega) (by omega) | exact rs_eq (rv_num_i (by omega) (by omega)) (by omega) (by omega)), hWF, hRP, hKP⟩ dX8_takeNumberWithin_39
      · skip
        have tc_39 := ti_nle c_39
        refine lv_aload_n G0.1 G0.2.1 dX8_takeNumberWithin_26 rfl (lv_at hl 0 rfl) ?_
        refine lv_dup G0.1 G0.2.1 dX8_takeNumberWithin_27 rfl ?_
        refine py_get (C := RX8) (T := TX8) (N := 4) (k := 2) (v := .int v_26) G0 hw in_X8_takeNumberWithin_X8 rfl hr_30 (by decide) (by decide +kernel) rfl dX8_takeNumberWithin_28 ?_
        refine lv_iconst (v := 1) G0.1 G0.2.1 dX8_takeNumberWithin_31 (by decide) ?_
        refine lv_isub G0.1 G0.2.1 dX8_takeNumberWithin_32 ?_
        refine lv_topi (fun x_40 ex_40 => ?_)
        first | have tx_40 := ti_sub ex_40 (by omega) (by omega) | skip
        refine py_put (C := RX8) (T := TX8) (N := 4) (k := 2) (v := .int x_40) (fs' := [.ref (G.2 t 0), .int v_25, .int x_40, .int v_27]) (ty0 := tyX8) G0 hw tyX8_ok nmX8 in_X8_takeNumberWithin_X8 rfl hr_30 (by decide) (by decide +kernel) rfl rfl rfl rfl (Nat.le_of_ble_eq_true rfl) rfl dX8_takeNumberWithin_33 (fun f_41 H_42 locs h_43 x_44 hw => ?_)
        have hTB := (gfn_kp (kp_f (KP.refl.upd hWF x_44 Tt (Or.inl (by decide)) : KP G [9] false f_10 f_41) (wt_8 hG Tt) (by decide) (by decide) (fun _ => by decide))).trans hTB
        have hKP := hKP.upd hWF x_44 Tt (Or.inl (by decide))
        have hRP := hRP.trans (rp_upd hG hWF x_44 hr_30.2 h_43.2 (rp_code hG Tt (by decide)) rfl)
        have hWF := wf_upd hWF h_43 x_44 (by rw [Tt]; exact ⟨v_25, x_40, v_27, rfl, ⟨by omega, by omega⟩, ⟨by omega, by omega⟩⟩)
        have tq_45 := tp_eq h_43
        refine lv_iconst (v := 0) G0.1 G0.2.1 dX8_takeNumberWithin_36 (by decide) ?_
        exact py_iret G0 hr rfl hlk hw ⟨⟨by omega, by omega⟩, (by first | omega | (intro q; omega)), (by first | omega | (intro q; omega)), (by first | omega | (intro q; omega)), (by first | omega | (intro q; omega)), (by first | omega | (intro q; omega)), (by first | exact rs_eqw (rv_num_0 (by omega)) (by omega) (by omega) | exact rs_eq (rv_num_o (by omega) (by omega)) (by omega) (by omega) | exact rs_eq (rv_num_i (by omega) (by omega)) (by omega) (by omega)), hWF, hRP, hKP⟩ dX8_takeNumberWithin_37
  · skip
    have tc_24 := ti_eq c_24
    clear en_14
    clear en_17
    refine lv_iconst (v := 0) G0.1 G0.2.1 dX8_takeNumberWithin_8 (by decide) ?_
    obtain ⟨v_46, v_47, v_48, hr_51, b_49, b_50⟩ := wg_8 hWF Tt
    have bv_48 := wf_free v_48
    have tq_52 := tp_eq hr_51
    exact py_iret G0 hr rfl hlk hw ⟨⟨by omega, by omega⟩, (by first | omega | (intro q; omega)), (by first | omega | (intro q; omega)), (by first | omega | (intro q; omega)), (by first | omega | (intro q; omega)), (by first | omega | (intro q; omega)), (by first | exact rs_eqw (rv_num_0 (by omega)) (by omega) (by omega) | exact rs_eq (rv_num_o (by omega) (by omega)) (by omega) (by omega) | exact rs_eq (rv_num_i (by omega) (by omega)) (by omega) (by omega)), hWF, hRP, hKP⟩ dX8_takeNumberWithin_9
