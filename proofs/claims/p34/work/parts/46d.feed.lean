theorem dX12_byteOf_0 : decode cX12_byteOf 0 = .ok (.iload 5, 2) := by decide +kernel
theorem dX12_byteOf_2 : decode cX12_byteOf 2 = .ok (.iconst 4, 1) := by decide +kernel
theorem dX12_byteOf_3 : decode cX12_byteOf 3 = .ok (.if_icmp .ge 7, 3) := by decide +kernel
theorem dX12_byteOf_6 : decode cX12_byteOf 6 = .ok (.iload_n 0, 1) := by decide +kernel
theorem dX12_byteOf_7 : decode cX12_byteOf 7 = .ok (.goto 38, 3) := by decide +kernel
theorem dX12_byteOf_10 : decode cX12_byteOf 10 = .ok (.iload 5, 2) := by decide +kernel
theorem dX12_byteOf_12 : decode cX12_byteOf 12 = .ok (.bipush 8, 2) := by decide +kernel
theorem dX12_byteOf_14 : decode cX12_byteOf 14 = .ok (.if_icmp .ge 7, 3) := by decide +kernel
theorem dX12_byteOf_17 : decode cX12_byteOf 17 = .ok (.iload_n 1, 1) := by decide +kernel
theorem dX12_byteOf_18 : decode cX12_byteOf 18 = .ok (.goto 27, 3) := by decide +kernel
theorem dX12_byteOf_21 : decode cX12_byteOf 21 = .ok (.iload 5, 2) := by decide +kernel
theorem dX12_byteOf_23 : decode cX12_byteOf 23 = .ok (.bipush 12, 2) := by decide +kernel
theorem dX12_byteOf_25 : decode cX12_byteOf 25 = .ok (.if_icmp .ge 7, 3) := by decide +kernel
theorem dX12_byteOf_28 : decode cX12_byteOf 28 = .ok (.iload_n 2, 1) := by decide +kernel
theorem dX12_byteOf_29 : decode cX12_byteOf 29 = .ok (.goto 16, 3) := by decide +kernel
theorem dX12_byteOf_32 : decode cX12_byteOf 32 = .ok (.iload 5, 2) := by decide +kernel
theorem dX12_byteOf_34 : decode cX12_byteOf 34 = .ok (.bipush 16, 2) := by decide +kernel
theorem dX12_byteOf_36 : decode cX12_byteOf 36 = .ok (.if_icmp .ge 7, 3) := by decide +kernel
theorem dX12_byteOf_39 : decode cX12_byteOf 39 = .ok (.iload_n 3, 1) := by decide +kernel
theorem dX12_byteOf_40 : decode cX12_byteOf 40 = .ok (.goto 5, 3) := by decide +kernel
theorem dX12_byteOf_43 : decode cX12_byteOf 43 = .ok (.iload 4, 2) := by decide +kernel
theorem dX12_byteOf_45 : decode cX12_byteOf 45 = .ok (.istore 6, 2) := by decide +kernel
theorem dX12_byteOf_47 : decode cX12_byteOf 47 = .ok (.iload 6, 2) := by decide +kernel
theorem dX12_byteOf_49 : decode cX12_byteOf 49 = .ok (.bipush 24, 2) := by decide +kernel
theorem dX12_byteOf_51 : decode cX12_byteOf 51 = .ok (.bipush 8, 2) := by decide +kernel
theorem dX12_byteOf_53 : decode cX12_byteOf 53 = .ok (.iload 5, 2) := by decide +kernel
theorem dX12_byteOf_55 : decode cX12_byteOf 55 = .ok (.iconst 4, 1) := by decide +kernel
theorem dX12_byteOf_56 : decode cX12_byteOf 56 = .ok (.irem, 1) := by decide +kernel
theorem dX12_byteOf_57 : decode cX12_byteOf 57 = .ok (.imul, 1) := by decide +kernel
theorem dX12_byteOf_58 : decode cX12_byteOf 58 = .ok (.isub, 1) := by decide +kernel
theorem dX12_byteOf_59 : decode cX12_byteOf 59 = .ok (.ishr, 1) := by decide +kernel
theorem dX12_byteOf_60 : decode cX12_byteOf 60 = .ok (.sipush 255, 3) := by decide +kernel
theorem dX12_byteOf_63 : decode cX12_byteOf 63 = .ok (.iand, 1) := by decide +kernel
theorem dX12_byteOf_64 : decode cX12_byteOf 64 = .ok (.ireturn, 1) := by decide +kernel
theorem dX12_feed_0 : decode cX12_feed 0 = .ok (.iconst 0, 1) := by decide +kernel
theorem dX12_feed_1 : decode cX12_feed 1 = .ok (.istore 6, 2) := by decide +kernel
theorem dX12_feed_3 : decode cX12_feed 3 = .ok (.iconst 0, 1) := by decide +kernel
theorem dX12_feed_4 : decode cX12_feed 4 = .ok (.istore 7, 2) := by decide +kernel
theorem dX12_feed_6 : decode cX12_feed 6 = .ok (.iload 7, 2) := by decide +kernel
theorem dX12_feed_8 : decode cX12_feed 8 = .ok (.bipush 20, 2) := by decide +kernel
theorem dX12_feed_10 : decode cX12_feed 10 = .ok (.if_icmp .ge 34, 3) := by decide +kernel
theorem dX12_feed_13 : decode cX12_feed 13 = .ok (.iload 6, 2) := by decide +kernel
theorem dX12_feed_15 : decode cX12_feed 15 = .ok (.iload_n 1, 1) := by decide +kernel
theorem dX12_feed_16 : decode cX12_feed 16 = .ok (.iload_n 2, 1) := by decide +kernel
theorem dX12_feed_17 : decode cX12_feed 17 = .ok (.iload_n 3, 1) := by decide +kernel
theorem dX12_feed_18 : decode cX12_feed 18 = .ok (.iload 4, 2) := by decide +kernel
theorem dX12_feed_20 : decode cX12_feed 20 = .ok (.iload 5, 2) := by decide +kernel
theorem dX12_feed_22 : decode cX12_feed 22 = .ok (.iload 7, 2) := by decide +kernel
theorem dX12_feed_24 : decode cX12_feed 24 = .ok (.invokestatic 120, 3) := by decide +kernel
theorem dX12_feed_27 : decode cX12_feed 27 = .ok (.ifCond .eq 7, 3) := by decide +kernel
theorem dX12_feed_30 : decode cX12_feed 30 = .ok (.iconst 1, 1) := by decide +kernel
theorem dX12_feed_31 : decode cX12_feed 31 = .ok (.goto 4, 3) := by decide +kernel
theorem dX12_feed_34 : decode cX12_feed 34 = .ok (.iconst 0, 1) := by decide +kernel
theorem dX12_feed_35 : decode cX12_feed 35 = .ok (.iadd, 1) := by decide +kernel
theorem dX12_feed_36 : decode cX12_feed 36 = .ok (.istore 6, 2) := by decide +kernel
theorem dX12_feed_38 : decode cX12_feed 38 = .ok (.iinc 7 1, 3) := by decide +kernel
theorem dX12_feed_41 : decode cX12_feed 41 = .ok (.goto (-35), 3) := by decide +kernel
theorem dX12_feed_44 : decode cX12_feed 44 = .ok (.aload_n 0, 1) := by decide +kernel
theorem dX12_feed_45 : decode cX12_feed 45 = .ok (.getfield 124, 3) := by decide +kernel
theorem dX12_feed_48 : decode cX12_feed 48 = .ok (.iload 6, 2) := by decide +kernel
theorem dX12_feed_50 : decode cX12_feed 50 = .ok (.iadd, 1) := by decide +kernel
theorem dX12_feed_51 : decode cX12_feed 51 = .ok (.sipush 160, 3) := by decide +kernel
theorem dX12_feed_54 : decode cX12_feed 54 = .ok (.if_icmp .le 5, 3) := by decide +kernel
theorem dX12_feed_57 : decode cX12_feed 57 = .ok (.iconst (-1), 1) := by decide +kernel
theorem dX12_feed_58 : decode cX12_feed 58 = .ok (.ireturn, 1) := by decide +kernel
theorem dX12_feed_59 : decode cX12_feed 59 = .ok (.iconst 0, 1) := by decide +kernel
theorem dX12_feed_60 : decode cX12_feed 60 = .ok (.istore 7, 2) := by decide +kernel
theorem dX12_feed_62 : decode cX12_feed 62 = .ok (.iload 7, 2) := by decide +kernel
theorem dX12_feed_64 : decode cX12_feed 64 = .ok (.bipush 20, 2) := by decide +kernel
theorem dX12_feed_66 : decode cX12_feed 66 = .ok (.if_icmp .ge 49, 3) := by decide +kernel
theorem dX12_feed_69 : decode cX12_feed 69 = .ok (.iload_n 1, 1) := by decide +kernel
theorem dX12_feed_70 : decode cX12_feed 70 = .ok (.iload_n 2, 1) := by decide +kernel
theorem dX12_feed_71 : decode cX12_feed 71 = .ok (.iload_n 3, 1) := by decide +kernel
theorem dX12_feed_72 : decode cX12_feed 72 = .ok (.iload 4, 2) := by decide +kernel
theorem dX12_feed_74 : decode cX12_feed 74 = .ok (.iload 5, 2) := by decide +kernel
theorem dX12_feed_76 : decode cX12_feed 76 = .ok (.iload 7, 2) := by decide +kernel
theorem dX12_feed_78 : decode cX12_feed 78 = .ok (.invokestatic 120, 3) := by decide +kernel
theorem dX12_feed_81 : decode cX12_feed 81 = .ok (.istore 8, 2) := by decide +kernel
theorem dX12_feed_83 : decode cX12_feed 83 = .ok (.iload 8, 2) := by decide +kernel
theorem dX12_feed_85 : decode cX12_feed 85 = .ok (.ifCond .eq 24, 3) := by decide +kernel
theorem dX12_feed_88 : decode cX12_feed 88 = .ok (.aload_n 0, 1) := by decide +kernel
theorem dX12_feed_89 : decode cX12_feed 89 = .ok (.getfield 9, 3) := by decide +kernel
theorem dX12_feed_92 : decode cX12_feed 92 = .ok (.aload_n 0, 1) := by decide +kernel
theorem dX12_feed_93 : decode cX12_feed 93 = .ok (.getfield 124, 3) := by decide +kernel
theorem dX12_feed_96 : decode cX12_feed 96 = .ok (.iload 8, 2) := by decide +kernel
theorem dX12_feed_98 : decode cX12_feed 98 = .ok (.iastore, 1) := by decide +kernel
theorem dX12_feed_99 : decode cX12_feed 99 = .ok (.aload_n 0, 1) := by decide +kernel
theorem dX12_feed_100 : decode cX12_feed 100 = .ok (.dup, 1) := by decide +kernel
theorem dX12_feed_101 : decode cX12_feed 101 = .ok (.getfield 124, 3) := by decide +kernel
theorem dX12_feed_104 : decode cX12_feed 104 = .ok (.iconst 1, 1) := by decide +kernel
theorem dX12_feed_105 : decode cX12_feed 105 = .ok (.iadd, 1) := by decide +kernel
theorem dX12_feed_106 : decode cX12_feed 106 = .ok (.putfield 124, 3) := by decide +kernel
theorem dX12_feed_109 : decode cX12_feed 109 = .ok (.iinc 7 1, 3) := by decide +kernel
theorem dX12_feed_112 : decode cX12_feed 112 = .ok (.goto (-50), 3) := by decide +kernel
theorem dX12_feed_115 : decode cX12_feed 115 = .ok (.aload_n 0, 1) := by decide +kernel
theorem dX12_feed_116 : decode cX12_feed 116 = .ok (.getfield 124, 3) := by decide +kernel
theorem dX12_feed_119 : decode cX12_feed 119 = .ok (.ireturn, 1) := by decide +kernel
def w_X12_byteOf : List Cond := .code yX12_byteOf cX12_byteOf 7 (some .int) :: ([] ++ ([]))
set_option maxHeartbeats 4000000 in
set_option maxRecDepth 100000 in
theorem c_X12_byteOf (l : Launch) (E : py_E) (G : wf_G) (L : List Nat) (f : py_F) (sz : Nat) (a : Int32) (b : Int32) (q : Int32) (d : Int32) (v : Int32) (k : Int32) (hG : GT G) (hWF : WF E G L f) : Met l yX12_byteOf w_X12_byteOf ({ frames := 0, cells := 0, slots := 0, locals := 0 }) (py_Pc E [.int a, .int b, .int q, .int d, .int v, .int k] L f sz) (py_Qi E L f sz (fun r L1 f1 => (r = by6 a b q d v k) ∧ L = L1 ∧ f = f1)) 0 0 (va_A (va_pl L f) sz) := by
  refine Met.ofW (cc := cX12_byteOf) (maxL := 7) (ret := (some .int)) (by decide) rfl ?_
  intro p e s m args below meth c s₁ B hml hv
  obtain ⟨rfl, rfl, hw⟩ := py_start hv
  have G0 : CallFix p m c cX12_byteOf 7 s _ w_X12_byteOf RX12 := ⟨B.exec, B.bytes, hml, findClass_of_methodNamed B.named, atoms_spec (ws := w_X12_byteOf) B.pre⟩
  have hr := B.returns
  have hlk := B.notSynchronized
  have kcm1 : (-1 : Int32).toInt = -1 := rfl
  have kc0 : (0 : Int32).toInt = 0 := rfl
  have kc1 : (1 : Int32).toInt = 1 := rfl
  have kc4 : (4 : Int32).toInt = 4 := rfl
  have kc8 : (8 : Int32).toInt = 8 := rfl
  have kc12 : (12 : Int32).toInt = 12 := rfl
  have kc16 : (16 : Int32).toInt = 16 := rfl
  have kc24 : (24 : Int32).toInt = 24 := rfl
  have kc255 : (255 : Int32).toInt = 255 := rfl
  have hl := lv_entry ([.int a, .int b, .int q, .int d, .int v, .int k]) (n := 7) (Nat.le_of_ble_eq_true rfl)
  rw [lg_entry_eq]
  generalize (lg_sl ([.int a, .int b, .int q, .int d, .int v, .int k]) ++ List.replicate (7 - (lg_sl ([.int a, .int b, .int q, .int d, .int v, .int k])).length) Slot.unset).toArray = ls at hl ⊢
  have hl : lv_has ls 7 [(0, .int a), (1, .int b), (2, .int q), (3, .int d), (4, .int v), (5, .int k)] := hl
  refine lv_iload G0.1 G0.2.1 dX12_byteOf_0 (lv_at hl 5 rfl) ?_
  refine lv_iconst (v := 4) G0.1 G0.2.1 dX12_byteOf_2 (by decide) ?_
  refine lv_icmp_ge (tgt := 10) G0.1 G0.2.1 dX12_byteOf_3 (by decide) (fun c_1 => ?_) (fun c_1 => ?_)
  · skip
    have tc_1 := ti_le c_1
    refine lv_iload G0.1 G0.2.1 dX12_byteOf_10 (lv_at hl 5 rfl) ?_
    refine lv_bipush (v := 8) G0.1 G0.2.1 dX12_byteOf_12 (by decide) ?_
    refine lv_icmp_ge (tgt := 21) G0.1 G0.2.1 dX12_byteOf_14 (by decide) (fun c_2 => ?_) (fun c_2 => ?_)
    · skip
      have tc_2 := ti_le c_2
      refine lv_iload G0.1 G0.2.1 dX12_byteOf_21 (lv_at hl 5 rfl) ?_
      refine lv_bipush (v := 12) G0.1 G0.2.1 dX12_byteOf_23 (by decide) ?_
      refine lv_icmp_ge (tgt := 32) G0.1 G0.2.1 dX12_byteOf_25 (by decide) (fun c_3 => ?_) (fun c_3 => ?_)
      · skip
        have tc_3 := ti_le c_3
        refine lv_iload G0.1 G0.2.1 dX12_byteOf_32 (lv_at hl 5 rfl) ?_
        refine lv_bipush (v := 16) G0.1 G0.2.1 dX12_byteOf_34 (by decide) ?_
        refine lv_icmp_ge (tgt := 43) G0.1 G0.2.1 dX12_byteOf_36 (by decide) (fun c_4 => ?_) (fun c_4 => ?_)
        · skip
          have tc_4 := ti_le c_4
          refine lv_iload G0.1 G0.2.1 dX12_byteOf_43 (lv_at hl 4 rfl) ?_
          refine lv_istore (lv' := [(6, .int v), (0, .int a), (1, .int b), (2, .int q), (3, .int d), (4, .int v), (5, .int k)]) G0.1 G0.2.1 dX12_byteOf_45 hl (by decide) rfl (fun ls hl => ?_)
          refine lv_iload G0.1 G0.2.1 dX12_byteOf_47 (lv_at hl 0 rfl) ?_
          refine lv_bipush (v := 24) G0.1 G0.2.1 dX12_byteOf_49 (by decide) ?_
          refine lv_bipush (v := 8) G0.1 G0.2.1 dX12_byteOf_51 (by decide) ?_
          refine lv_iload G0.1 G0.2.1 dX12_byteOf_53 (lv_at hl 6 rfl) ?_
          refine lv_iconst (v := 4) G0.1 G0.2.1 dX12_byteOf_55 (by decide) ?_
          refine lv_irem G0.1 G0.2.1 dX12_byteOf_56 (by decide) ?_
          refine lv_topi (fun x_5 ex_5 => ?_)
          refine lv_imul G0.1 G0.2.1 dX12_byteOf_57 ?_
          refine lv_topi (fun x_6 ex_6 => ?_)
          first | have tx_6 := ti_muld ex_6 kc8 (by omega -splitDisjunctions) (by omega -splitDisjunctions) | skip
          refine lv_isub G0.1 G0.2.1 dX12_byteOf_58 ?_
          refine lv_topi (fun x_7 ex_7 => ?_)
          first | have tx_7 := ti_sub ex_7 (by omega -splitDisjunctions) (by omega -splitDisjunctions) | skip
          refine lv_ishr G0.1 G0.2.1 dX12_byteOf_59 ?_
          refine lv_topi (fun x_8 ex_8 => ?_)
          refine lv_sipush (v := 255) G0.1 G0.2.1 dX12_byteOf_60 (by decide) ?_
          refine lv_iand G0.1 G0.2.1 dX12_byteOf_63 ?_
          refine lv_topi (fun x_9 ex_9 => ?_)
          exact py_iret G0 hr rfl hlk hw ⟨(by unfold by6; rw [if_neg (Int32.not_lt.mpr c_1)]; rw [if_neg (Int32.not_lt.mpr c_2)]; rw [if_neg (Int32.not_lt.mpr c_3)]; rw [if_neg (Int32.not_lt.mpr c_4)]; rw [ex_9, ex_8, ex_7, ex_6, ex_5]), rfl, rfl⟩ dX12_byteOf_64
        · skip
          have tc_4 := ti_nle c_4
          refine lv_iload_n G0.1 G0.2.1 dX12_byteOf_39 rfl (lv_at hl 3 rfl) ?_
          refine lv_goto (tgt := 45) G0.1 G0.2.1 dX12_byteOf_40 (by decide) ?_
          refine lv_istore (lv' := [(6, .int d), (0, .int a), (1, .int b), (2, .int q), (3, .int d), (4, .int v), (5, .int k)]) G0.1 G0.2.1 dX12_byteOf_45 hl (by decide) rfl (fun ls hl => ?_)
          refine lv_iload G0.1 G0.2.1 dX12_byteOf_47 (lv_at hl 0 rfl) ?_
          refine lv_bipush (v := 24) G0.1 G0.2.1 dX12_byteOf_49 (by decide) ?_
          refine lv_bipush (v := 8) G0.1 G0.2.1 dX12_byteOf_51 (by decide) ?_
          refine lv_iload G0.1 G0.2.1 dX12_byteOf_53 (lv_at hl 6 rfl) ?_
          refine lv_iconst (v := 4) G0.1 G0.2.1 dX12_byteOf_55 (by decide) ?_
          refine lv_irem G0.1 G0.2.1 dX12_byteOf_56 (by decide) ?_
          refine lv_topi (fun x_10 ex_10 => ?_)
          refine lv_imul G0.1 G0.2.1 dX12_byteOf_57 ?_
          refine lv_topi (fun x_11 ex_11 => ?_)
          first | have tx_11 := ti_muld ex_11 kc8 (by omega -splitDisjunctions) (by omega -splitDisjunctions) | skip
          refine lv_isub G0.1 G0.2.1 dX12_byteOf_58 ?_
          refine lv_topi (fun x_12 ex_12 => ?_)
          first | have tx_12 := ti_sub ex_12 (by omega -splitDisjunctions) (by omega -splitDisjunctions) | skip
          refine lv_ishr G0.1 G0.2.1 dX12_byteOf_59 ?_
          refine lv_topi (fun x_13 ex_13 => ?_)
          refine lv_sipush (v := 255) G0.1 G0.2.1 dX12_byteOf_60 (by decide) ?_
          refine lv_iand G0.1 G0.2.1 dX12_byteOf_63 ?_
          refine lv_topi (fun x_14 ex_14 => ?_)
          exact py_iret G0 hr rfl hlk hw ⟨(by unfold by6; rw [if_neg (Int32.not_lt.mpr c_1)]; rw [if_neg (Int32.not_lt.mpr c_2)]; rw [if_neg (Int32.not_lt.mpr c_3)]; rw [if_pos (Int32.not_le.mp c_4)]; rw [ex_14, ex_13, ex_12, ex_11, ex_10]), rfl, rfl⟩ dX12_byteOf_64
      · skip
        have tc_3 := ti_nle c_3
        refine lv_iload_n G0.1 G0.2.1 dX12_byteOf_28 rfl (lv_at hl 2 rfl) ?_
        refine lv_goto (tgt := 45) G0.1 G0.2.1 dX12_byteOf_29 (by decide) ?_
        refine lv_istore (lv' := [(6, .int q), (0, .int a), (1, .int b), (2, .int q), (3, .int d), (4, .int v), (5, .int k)]) G0.1 G0.2.1 dX12_byteOf_45 hl (by decide) rfl (fun ls hl => ?_)
        refine lv_iload G0.1 G0.2.1 dX12_byteOf_47 (lv_at hl 0 rfl) ?_
        refine lv_bipush (v := 24) G0.1 G0.2.1 dX12_byteOf_49 (by decide) ?_
        refine lv_bipush (v := 8) G0.1 G0.2.1 dX12_byteOf_51 (by decide) ?_
        refine lv_iload G0.1 G0.2.1 dX12_byteOf_53 (lv_at hl 6 rfl) ?_
        refine lv_iconst (v := 4) G0.1 G0.2.1 dX12_byteOf_55 (by decide) ?_
        refine lv_irem G0.1 G0.2.1 dX12_byteOf_56 (by decide) ?_
        refine lv_topi (fun x_15 ex_15 => ?_)
        refine lv_imul G0.1 G0.2.1 dX12_byteOf_57 ?_
        refine lv_topi (fun x_16 ex_16 => ?_)
        first | have tx_16 := ti_muld ex_16 kc8 (by omega -splitDisjunctions) (by omega -splitDisjunctions) | skip
        refine lv_isub G0.1 G0.2.1 dX12_byteOf_58 ?_
        refine lv_topi (fun x_17 ex_17 => ?_)
        first | have tx_17 := ti_sub ex_17 (by omega -splitDisjunctions) (by omega -splitDisjunctions) | skip
        refine lv_ishr G0.1 G0.2.1 dX12_byteOf_59 ?_
        refine lv_topi (fun x_18 ex_18 => ?_)
        refine lv_sipush (v := 255) G0.1 G0.2.1 dX12_byteOf_60 (by decide) ?_
        refine lv_iand G0.1 G0.2.1 dX12_byteOf_63 ?_
        refine lv_topi (fun x_19 ex_19 => ?_)
        exact py_iret G0 hr rfl hlk hw ⟨(by unfold by6; rw [if_neg (Int32.not_lt.mpr c_1)]; rw [if_neg (Int32.not_lt.mpr c_2)]; rw [if_pos (Int32.not_le.mp c_3)]; rw [ex_19, ex_18, ex_17, ex_16, ex_15]), rfl, rfl⟩ dX12_byteOf_64
    · skip
      have tc_2 := ti_nle c_2
      refine lv_iload_n G0.1 G0.2.1 dX12_byteOf_17 rfl (lv_at hl 1 rfl) ?_
      refine lv_goto (tgt := 45) G0.1 G0.2.1 dX12_byteOf_18 (by decide) ?_
      refine lv_istore (lv' := [(6, .int b), (0, .int a), (1, .int b), (2, .int q), (3, .int d), (4, .int v), (5, .int k)]) G0.1 G0.2.1 dX12_byteOf_45 hl (by decide) rfl (fun ls hl => ?_)
      refine lv_iload G0.1 G0.2.1 dX12_byteOf_47 (lv_at hl 0 rfl) ?_
      refine lv_bipush (v := 24) G0.1 G0.2.1 dX12_byteOf_49 (by decide) ?_
      refine lv_bipush (v := 8) G0.1 G0.2.1 dX12_byteOf_51 (by decide) ?_
      refine lv_iload G0.1 G0.2.1 dX12_byteOf_53 (lv_at hl 6 rfl) ?_
      refine lv_iconst (v := 4) G0.1 G0.2.1 dX12_byteOf_55 (by decide) ?_
      refine lv_irem G0.1 G0.2.1 dX12_byteOf_56 (by decide) ?_
      refine lv_topi (fun x_20 ex_20 => ?_)
      refine lv_imul G0.1 G0.2.1 dX12_byteOf_57 ?_
      refine lv_topi (fun x_21 ex_21 => ?_)
      first | have tx_21 := ti_muld ex_21 kc8 (by omega -splitDisjunctions) (by omega -splitDisjunctions) | skip
      refine lv_isub G0.1 G0.2.1 dX12_byteOf_58 ?_
      refine lv_topi (fun x_22 ex_22 => ?_)
      first | have tx_22 := ti_sub ex_22 (by omega -splitDisjunctions) (by omega -splitDisjunctions) | skip
      refine lv_ishr G0.1 G0.2.1 dX12_byteOf_59 ?_
      refine lv_topi (fun x_23 ex_23 => ?_)
      refine lv_sipush (v := 255) G0.1 G0.2.1 dX12_byteOf_60 (by decide) ?_
      refine lv_iand G0.1 G0.2.1 dX12_byteOf_63 ?_
      refine lv_topi (fun x_24 ex_24 => ?_)
      exact py_iret G0 hr rfl hlk hw ⟨(by unfold by6; rw [if_neg (Int32.not_lt.mpr c_1)]; rw [if_pos (Int32.not_le.mp c_2)]; rw [ex_24, ex_23, ex_22, ex_21, ex_20]), rfl, rfl⟩ dX12_byteOf_64
  · skip
    have tc_1 := ti_nle c_1
    refine lv_iload_n G0.1 G0.2.1 dX12_byteOf_6 rfl (lv_at hl 0 rfl) ?_
    refine lv_goto (tgt := 45) G0.1 G0.2.1 dX12_byteOf_7 (by decide) ?_
    refine lv_istore (lv' := [(6, .int a), (0, .int a), (1, .int b), (2, .int q), (3, .int d), (4, .int v), (5, .int k)]) G0.1 G0.2.1 dX12_byteOf_45 hl (by decide) rfl (fun ls hl => ?_)
    refine lv_iload G0.1 G0.2.1 dX12_byteOf_47 (lv_at hl 0 rfl) ?_
    refine lv_bipush (v := 24) G0.1 G0.2.1 dX12_byteOf_49 (by decide) ?_
    refine lv_bipush (v := 8) G0.1 G0.2.1 dX12_byteOf_51 (by decide) ?_
    refine lv_iload G0.1 G0.2.1 dX12_byteOf_53 (lv_at hl 6 rfl) ?_
    refine lv_iconst (v := 4) G0.1 G0.2.1 dX12_byteOf_55 (by decide) ?_
    refine lv_irem G0.1 G0.2.1 dX12_byteOf_56 (by decide) ?_
    refine lv_topi (fun x_25 ex_25 => ?_)
    refine lv_imul G0.1 G0.2.1 dX12_byteOf_57 ?_
    refine lv_topi (fun x_26 ex_26 => ?_)
    first | have tx_26 := ti_muld ex_26 kc8 (by omega -splitDisjunctions) (by omega -splitDisjunctions) | skip
    refine lv_isub G0.1 G0.2.1 dX12_byteOf_58 ?_
    refine lv_topi (fun x_27 ex_27 => ?_)
    first | have tx_27 := ti_sub ex_27 (by omega -splitDisjunctions) (by omega -splitDisjunctions) | skip
    refine lv_ishr G0.1 G0.2.1 dX12_byteOf_59 ?_
    refine lv_topi (fun x_28 ex_28 => ?_)
    refine lv_sipush (v := 255) G0.1 G0.2.1 dX12_byteOf_60 (by decide) ?_
    refine lv_iand G0.1 G0.2.1 dX12_byteOf_63 ?_
    refine lv_topi (fun x_29 ex_29 => ?_)
    exact py_iret G0 hr rfl hlk hw ⟨(by unfold by6; rw [if_pos (Int32.not_le.mp c_1)]; rw [ex_29, ex_28, ex_27, ex_26, ex_25]), rfl, rfl⟩ dX12_byteOf_64

def w_X12_feed : List Cond := .code yX12_feed cX12_feed 9 (some .int) :: ([Cond.fieldLink RX12 124 "HeadYearModel" "size" "I", Cond.methodLink RX12 120 yX12_byteOf, Cond.static yX12_byteOf, Cond.initialized RX12, Cond.fieldLink RX12 9 "HeadYearModel" "tape" "[I"] ++ (u_ws RX12 TX12 54 ++ (w_X12_byteOf ++ ([]))))
theorem in_X12_feed_X12 : ∀ w ∈ u_ws RX12 TX12 54, w ∈ w_X12_feed := fun _ h => List.mem_cons_of_mem _ (List.mem_append_right _ (List.mem_append_left _ h))
theorem gg_X12_feed_X12_byteOf : GoodIn w_X12_feed w_X12_byteOf := goodIn_sub (fun _ h => List.mem_cons_of_mem _ (List.mem_append_right _ (List.mem_append_right _ (List.mem_append_left _ h)))) (by decide +kernel)
theorem g_X12_feed_X12_byteOf_120 : GoodIn w_X12_feed (va_wsS RX12 120 yX12_byteOf w_X12_byteOf) := goodIn_app (goodIn_of _ (by decide +kernel)) gg_X12_feed_X12_byteOf
set_option maxHeartbeats 4000000 in
set_option maxRecDepth 100000 in
theorem c_X12_feed (l : Launch) (E : py_E) (G : wf_G) (L : List Nat) (f : py_F) (sz : Nat) (u : Nat) (a : Int32) (b : Int32) (q : Int32) (d : Int32) (v : Int32) (gb : rs_B) (nb : Int) (hG : GT G) (hWF : WF E G L f) (Tu : G.1 u = 13) (hp0 : mi f u 2 = nb ∧ 0 ≤ nb) (hq0 : AG f (G.2 u 1) gb nb) : Met l yX12_feed w_X12_feed ({ frames := 1, cells := 0, slots := 0, locals := 26 }) (py_Pc E [.ref u, .int a, .int b, .int q, .int d, .int v] L f sz) (py_Qi E L f sz (fun r L1 f1 => (FDR f1 G u gb nb a b q d v r.toInt) ∧ WF E G L1 f1 ∧ KP G [40, 13] false f f1 ∧ FK [2] f f1 u)) 0 0 (va_A (va_pl L f) sz) := by
  refine Met.ofW (cc := cX12_feed) (maxL := 9) (ret := (some .int)) (by decide) rfl ?_
  intro p e s m args below meth c s₁ B hml hv
  obtain ⟨rfl, rfl, hw⟩ := py_start hv
  have G0 : CallFix p m c cX12_feed 9 s _ w_X12_feed RX12 := ⟨B.exec, B.bytes, hml, findClass_of_methodNamed B.named, atoms_spec (ws := w_X12_feed) B.pre⟩
  have hr := B.returns
  have hlk := B.notSynchronized
  have kcm1 : (-1 : Int32).toInt = -1 := rfl
  have kc0 : (0 : Int32).toInt = 0 := rfl
  have kc1 : (1 : Int32).toInt = 1 := rfl
  have kc20 : (20 : Int32).toInt = 20 := rfl
  have kc160 : (160 : Int32).toInt = 160 := rfl
  have hl := lv_entry ([.ref u, .int a, .int b, .int q, .int d, .int v]) (n := 9) (Nat.le_of_ble_eq_true rfl)
  rw [lg_entry_eq]
  generalize (lg_sl ([.ref u, .int a, .int b, .int q, .int d, .int v]) ++ List.replicate (9 - (lg_sl ([.ref u, .int a, .int b, .int q, .int d, .int v])).length) Slot.unset).toArray = ls at hl ⊢
  have hl : lv_has ls 9 [(0, .ref u), (1, .int a), (2, .int b), (3, .int q), (4, .int d), (5, .int v)] := hl
  have hFK : FK [2] f f u := FK.refl
  have hKP : KP G [40, 13] false f f := KP.refl
  have hMB := hq0
  refine lv_iconst (v := 0) G0.1 G0.2.1 dX12_feed_0 (by decide) ?_
  refine lv_istore (lv' := [(6, .int 0), (0, .ref u), (1, .int a), (2, .int b), (3, .int q), (4, .int d), (5, .int v)]) G0.1 G0.2.1 dX12_feed_1 hl (by decide) rfl (fun ls hl => ?_)
  refine lv_iconst (v := 0) G0.1 G0.2.1 dX12_feed_3 (by decide) ?_
  refine lv_istore (lv' := [(7, .int 0), (6, .int 0), (0, .ref u), (1, .int a), (2, .int b), (3, .int q), (4, .int d), (5, .int v)]) G0.1 G0.2.1 dX12_feed_4 hl (by decide) rfl (fun ls hl => ?_)
  have lo_6 : ∀ n_6 : Nat, ∀ (v_1 : Int32) (v_2 : Int32) (H_j6 : Heap) (locs : List Loc) (ls : Array Slot), (2147483647 - v_1.toInt).toNat = n_6 → (0 ≤ v_1.toInt ∧ v_1.toInt ≤ 2147483647) → (v_2.toInt = cn6 a b q d v v_1.toInt.toNat) → (v_1.toInt ≤ 20) → py_W E (va_A (va_pl L f) s.heap.size) s L f H_j6 locs → lv_has ls 9 [(7, .int v_1), (6, .int v_2), (0, .ref u), (1, .int a), (2, .int b), (3, .int q), (4, .int d), (5, .int v)] → W p l e (headSpec w_X12_feed ({ frames := 1, cells := 0, slots := 0, locals := 26 })).room s m ([.ref u, .int a, .int b, .int q, .int d, .int v] : List Value).toArray below meth c H_j6 locs 0 0 (MQ below (py_Qi E L f s.heap.size (fun r L1 f1 => (FDR f1 G u gb nb a b q d v r.toInt) ∧ WF E G L1 f1 ∧ KP G [40, 13] false f f1 ∧ FK [2] f f1 u)) ([.ref u, .int a, .int b, .int q, .int d, .int v] : List Value).toArray s 0 0 (va_A (va_pl L f) s.heap.size)) (F0 m 6 ls []) := by
    intro n_6
    induction n_6 using Nat.strongRecOn with
    | _ n_6 ih_6 =>
      intro v_1 v_2 H_j6 locs ls hn_6 bv_1 iv0 iv1 hw hl
      refine lv_iload G0.1 G0.2.1 dX12_feed_6 (lv_at hl 0 rfl) ?_
      refine lv_bipush (v := 20) G0.1 G0.2.1 dX12_feed_8 (by decide) ?_
      refine lv_icmp_ge (tgt := 44) G0.1 G0.2.1 dX12_feed_10 (by decide) (fun c_3 => ?_) (fun c_3 => ?_)
      · skip
        have tc_3 := ti_le c_3
        have h20 : v_2.toInt = cn6 a b q d v 20 := by rw [iv0, show v_1.toInt.toNat = 20 by omega]
        have h20b := cn6_le a b q d v 20
        have hcc := cn6_20 a b q d v
        refine lv_aload_n G0.1 G0.2.1 dX12_feed_44 rfl (lv_at hl 2 rfl) ?_
        obtain ⟨v_4, v_5, v_6, v_7, v_8, v_9, v_10, v_11, v_12, v_13, v_14, v_15, y_16, v_17, v_18, v_19, v_20, v_21, y_22, v_23, y_24, v_25, hr_38, b_26, b_27, b_28, b_29, b_30, b_31, b_32, b_33, b_34, b_35, b_36, b_37⟩ := wg_12 hWF Tu
        have tq_39 := mi_row hr_38 2 rfl
        refine py_get (C := RX12) (T := TX12) (N := 54) (k := 2) (v := .int v_5) G0 hw in_X12_feed_X12 rfl hr_38 (by decide) (by decide +kernel) rfl dX12_feed_45 ?_
        refine lv_iload G0.1 G0.2.1 dX12_feed_48 (lv_at hl 1 rfl) ?_
        refine lv_iadd G0.1 G0.2.1 dX12_feed_50 ?_
        refine lv_topi (fun x_40 ex_40 => ?_)
        first | have tx_40 := ti_add ex_40 (by omega -splitDisjunctions) (by omega -splitDisjunctions) | skip
        refine lv_sipush (v := 160) G0.1 G0.2.1 dX12_feed_51 (by decide) ?_
        refine lv_icmp_le (tgt := 59) G0.1 G0.2.1 dX12_feed_54 (by decide) (fun c_41 => ?_) (fun c_41 => ?_)
        · skip
          have tc_41 := ti_le c_41
          refine lv_iconst (v := 0) G0.1 G0.2.1 dX12_feed_59 (by decide) ?_
          refine lv_istore (lv' := [(7, .int 0), (6, .int v_2), (0, .ref u), (1, .int a), (2, .int b), (3, .int q), (4, .int d), (5, .int v)]) G0.1 G0.2.1 dX12_feed_60 hl (by decide) rfl (fun ls hl => ?_)
          have lo_62 : ∀ n_62 : Nat, ∀ (v_42 : Int32) (L_j62 : List Nat) (f_j62 : py_F) (H_j62 : Heap) (locs : List Loc) (ls : Array Slot), (2147483647 - v_42.toInt).toNat = n_62 → (0 ≤ v_42.toInt ∧ v_42.toInt ≤ 2147483647) → WF E G L_j62 f_j62 → KP G [40, 13] false f f_j62 → FK [2] f f_j62 u → (mi f_j62 u 2 = mi f u 2 + cn6 a b q d v v_42.toInt.toNat) → (v_42.toInt ≤ 20) → (AG f_j62 (G.2 u 1) (fa6 a b q d v (gb, nb) v_42.toInt.toNat).1 (fa6 a b q d v (gb, nb) v_42.toInt.toNat).2) → py_W E (va_A (va_pl L f) s.heap.size) s L_j62 f_j62 H_j62 locs → lv_has ls 9 [(7, .int v_42), (6, .int v_2), (0, .ref u), (1, .int a), (2, .int b), (3, .int q), (4, .int d), (5, .int v)] → W p l e (headSpec w_X12_feed ({ frames := 1, cells := 0, slots := 0, locals := 26 })).room s m ([.ref u, .int a, .int b, .int q, .int d, .int v] : List Value).toArray below meth c H_j62 locs 0 0 (MQ below (py_Qi E L f s.heap.size (fun r L1 f1 => (FDR f1 G u gb nb a b q d v r.toInt) ∧ WF E G L1 f1 ∧ KP G [40, 13] false f f1 ∧ FK [2] f f1 u)) ([.ref u, .int a, .int b, .int q, .int d, .int v] : List Value).toArray s 0 0 (va_A (va_pl L f) s.heap.size)) (F0 m 62 ls []) := by
            intro n_62
            induction n_62 using Nat.strongRecOn with
            | _ n_62 ih_62 =>
              intro v_42 L_j62 f_j62 H_j62 locs ls hn_62 bv_42 hWF hKP hFK iv0 iv1 iv2 hw hl
              refine lv_iload G0.1 G0.2.1 dX12_feed_62 (lv_at hl 0 rfl) ?_
              refine lv_bipush (v := 20) G0.1 G0.2.1 dX12_feed_64 (by decide) ?_
              refine lv_icmp_ge (tgt := 115) G0.1 G0.2.1 dX12_feed_66 (by decide) (fun c_43 => ?_) (fun c_43 => ?_)
              · skip
                have tc_43 := ti_le c_43
                have h5 : (fb_5 (gb, nb) a b q d v).2 = nb + ((cn6 a b q d v 20 : Nat) : Int) := by rw [← fa6_20]; exact fa6_n 20
                have hAF : AG f_j62 (G.2 u 1) (fb_5 (gb, nb) a b q d v).1 (fb_5 (gb, nb) a b q d v).2 := by have hz := iv2; rw [show v_42.toInt.toNat = 20 by omega, fa6_20] at hz; exact hz
                have hmf : mi f_j62 u 2 = nb + ((cn6 a b q d v 20 : Nat) : Int) := by have hz := iv0; rw [show v_42.toInt.toNat = 20 by omega] at hz; omega
                refine lv_aload_n G0.1 G0.2.1 dX12_feed_115 rfl (lv_at hl 2 rfl) ?_
                obtain ⟨v_44, v_45, v_46, v_47, v_48, v_49, v_50, v_51, v_52, v_53, v_54, v_55, y_56, v_57, v_58, v_59, v_60, v_61, y_62, v_63, y_64, v_65, hr_78, b_66, b_67, b_68, b_69, b_70, b_71, b_72, b_73, b_74, b_75, b_76, b_77⟩ := wg_12 hWF Tu
                have tq_79 := mi_row hr_78 2 rfl
                refine py_get (C := RX12) (T := TX12) (N := 54) (k := 2) (v := .int v_45) G0 hw in_X12_feed_X12 rfl hr_78 (by decide) (by decide +kernel) rfl dX12_feed_116 ?_
                exact py_iret G0 hr rfl hlk hw ⟨(Or.inr ⟨by omega, by omega, by omega, hAF⟩), hWF, hKP, hFK⟩ dX12_feed_119
              · skip
                have tc_43 := ti_nle c_43
                refine lv_iload_n G0.1 G0.2.1 dX12_feed_69 rfl (lv_at hl 3 rfl) ?_
                refine lv_iload_n G0.1 G0.2.1 dX12_feed_70 rfl (lv_at hl 4 rfl) ?_
                refine lv_iload_n G0.1 G0.2.1 dX12_feed_71 rfl (lv_at hl 5 rfl) ?_
                refine lv_iload G0.1 G0.2.1 dX12_feed_72 (lv_at hl 6 rfl) ?_
                refine lv_iload G0.1 G0.2.1 dX12_feed_74 (lv_at hl 7 rfl) ?_
                refine lv_iload G0.1 G0.2.1 dX12_feed_76 (lv_at hl 0 rfl) ?_
                refine py_calli hw (va_runS (As := [.int a, .int b, .int q, .int d, .int v, .int v_42]) (rest := []) G0 (c_X12_byteOf l E G L_j62 f_j62 H_j62.size a b q d v v_42 hG hWF) (va_cwS 6 G0.2.2.2.2 g_X12_feed_X12_byteOf_120 rfl rfl rfl (by decide +kernel) ⟨(Nat.le_of_ble_eq_true rfl), (Nat.le_of_ble_eq_true rfl)⟩) (py_preS hw) rfl rfl hl.1 rfl (lv_room (Nat.le_of_ble_eq_true rfl)) dX12_feed_78 ⟨(Nat.le_of_ble_eq_true rfl), (Nat.le_of_ble_eq_true rfl)⟩) (fun r_84 L_80 f_81 H_82 locs hp_83 hw => ?_)
                obtain ⟨en_85, rfl, rfl⟩ := hp_83
                have br_84 := wf_free r_84
                refine lv_istore (lv' := [(8, .int r_84), (7, .int v_42), (6, .int v_2), (0, .ref u), (1, .int a), (2, .int b), (3, .int q), (4, .int d), (5, .int v)]) G0.1 G0.2.1 dX12_feed_81 hl (by decide) rfl (fun ls hl => ?_)
                refine lv_iload G0.1 G0.2.1 dX12_feed_83 (lv_at hl 0 rfl) ?_
                refine lv_if_eq (tgt := 109) G0.1 G0.2.1 dX12_feed_85 (by decide) (fun c_86 => ?_) (fun c_86 => ?_)
                · skip
                  have tc_86 := ti_eq c_86
                  have hcl : (cn6 a b q d v v_42.toInt.toNat : Int) ≤ 20 := by have hcz := cn6_le a b q d v v_42.toInt.toNat; omega
                  have hcn := cn6_0 (a := a) (b := b) (q := q) (d := d) (v := v) (n := v_42.toInt + 1) (by omega) en_85 (by omega) rfl
                  obtain ⟨x_87, ex_87⟩ : ∃ y : Int32, y = v_42 + 1 := ⟨_, rfl⟩
                  first | have tx_87 := ti_add ex_87 (by omega -splitDisjunctions) (by omega -splitDisjunctions) | skip
                  refine lv_iinc (v := x_87) (lv' := [(7, .int x_87), (8, .int r_84), (6, .int v_2), (0, .ref u), (1, .int a), (2, .int b), (3, .int q), (4, .int d), (5, .int v)]) G0.1 G0.2.1 dX12_feed_109 hl (k := 1) rfl (show _ + (1 : Int32) = _ from ex_87.symm) (by decide) rfl (fun ls hl => ?_)
                  refine lv_goto (tgt := 62) G0.1 G0.2.1 dX12_feed_112 (by decide) ?_
                  exact ih_62 ((2147483647 - x_87.toInt).toNat) (by omega) x_87 L_j62 f_j62 _ _ ls rfl ⟨by omega, by omega⟩ hWF hKP hFK (by rw [show x_87.toInt = v_42.toInt + 1 by omega]; omega) (by first | omega | (intros; omega)) (AG.skip iv2 rfl (by omega) en_85 (by omega) (by omega)) hw (lv_sub hl [0, 2, 3, 4, 5, 6, 7, 8] rfl)
                · skip
                  have tc_86 := ti_ne c_86
                  have hcl : (cn6 a b q d v v_42.toInt.toNat : Int) ≤ 20 := by have hcz := cn6_le a b q d v v_42.toInt.toNat; omega
                  have hcn := cn6_1 (a := a) (b := b) (q := q) (d := d) (v := v) (n := v_42.toInt + 1) (by omega) (by omega) en_85 (by omega) rfl
                  refine lv_aload_n G0.1 G0.2.1 dX12_feed_88 rfl (lv_at hl 3 rfl) ?_
                  obtain ⟨v_88, v_89, v_90, v_91, v_92, v_93, v_94, v_95, v_96, v_97, v_98, v_99, y_100, v_101, v_102, v_103, v_104, v_105, y_106, v_107, y_108, v_109, hr_122, b_110, b_111, b_112, b_113, b_114, b_115, b_116, b_117, b_118, b_119, b_120, b_121⟩ := wg_12 hWF Tu
                  have tq_123 := mi_row hr_122 2 rfl
                  refine py_get (C := RX12) (T := TX12) (N := 54) (k := 1) (v := .ref (G.2 u 1)) G0 hw in_X12_feed_X12 rfl hr_122 (by decide) (by decide +kernel) rfl dX12_feed_89 ?_
                  refine lv_aload_n G0.1 G0.2.1 dX12_feed_92 rfl (lv_at hl 3 rfl) ?_
                  refine py_get (C := RX12) (T := TX12) (N := 54) (k := 2) (v := .int v_89) G0 hw in_X12_feed_X12 rfl hr_122 (by decide) (by decide +kernel) rfl dX12_feed_93 ?_
                  refine lv_iload G0.1 G0.2.1 dX12_feed_96 (lv_at hl 0 rfl) ?_
                  obtain ⟨g_124, ha_125, hi_126⟩ := wf_arr (n := 160) (lo := (-2147483648)) (hi := 2147483647) hWF (wt12_1 hG Tu) (by decide) (fun _ => rfl)
                  have rg_127 : vp_in v_89 160 := ti_in (by omega) (by omega)
                  refine py_iast G0 hw ha_125 rg_127 dX12_feed_98 (fun f_128 H_129 locs h_130 x_131 hw => ?_)
                  have hkw : KP G [40] false f_j62 f_128 := KP.refl.upd hWF x_131 (wt12_1 hG Tu) (Or.inl (by decide))
                  have hFK := hFK.same ((x_131 _ (hWF _ (by rw [Tu]; decide)).1 (wf_ne Tu (wt12_1 hG Tu) (by decide))).2)
                  have hKP := hKP.upd hWF x_131 (wt12_1 hG Tu) (Or.inl (by decide))
                  have hi_132 := wf_inu (k := (v_89 : Int32).toNatClampNeg) (x := r_84) hi_126 (wf_free r_84).1 (wf_free r_84).2
                  have hWF := wf_upd hWF h_130 x_131 (by rw [(wt12_1 hG Tu)]; exact ⟨_, rfl, hi_132⟩)
                  have hr_122 := hr_122.ext x_131 (py_ne_arr hr_122 ha_125)
                  have tq_133 := mi_row hr_122 2 rfl
                  have hfn : (fa6 a b q d v (gb, nb) v_42.toInt.toNat).2 = nb + ((cn6 a b q d v v_42.toInt.toNat : Nat) : Int) := fa6_n _
                  have hAG := AG.app (n := v_42.toInt + 1) iv2 ha_125 h_130 (by omega) (by omega) (by omega) en_85 (by omega) rfl
                  refine lv_aload_n G0.1 G0.2.1 dX12_feed_99 rfl (lv_at hl 3 rfl) ?_
                  refine lv_dup G0.1 G0.2.1 dX12_feed_100 rfl ?_
                  refine py_get (C := RX12) (T := TX12) (N := 54) (k := 2) (v := .int v_89) G0 hw in_X12_feed_X12 rfl hr_122 (by decide) (by decide +kernel) rfl dX12_feed_101 ?_
                  refine lv_iconst (v := 1) G0.1 G0.2.1 dX12_feed_104 (by decide) ?_
                  refine lv_iadd G0.1 G0.2.1 dX12_feed_105 ?_
                  refine lv_topi (fun x_134 ex_134 => ?_)
                  first | have tx_134 := ti_add ex_134 (by omega -splitDisjunctions) (by omega -splitDisjunctions) | skip
                  refine py_put (C := RX12) (T := TX12) (N := 54) (k := 2) (v := .int x_134) (fs' := [.int v_88, .ref (G.2 u 1), .int x_134, .int v_90, .int v_91, .int v_92, .ref (G.2 u 6), .ref (G.2 u 7), .ref (G.2 u 8), .ref (G.2 u 9), .ref (G.2 u 10), .ref (G.2 u 11), .ref (G.2 u 12), .int v_93, .int v_94, .ref (G.2 u 15), .ref (G.2 u 16), .ref (G.2 u 17), .ref (G.2 u 18), .int v_95, .int v_96, .ref (G.2 u 21), .ref (G.2 u 22), .ref (G.2 u 23), .int v_97, .int v_98, .ref (G.2 u 26), .ref (G.2 u 27), .ref (G.2 u 28), .int v_99, .long y_100, .int v_101, .int v_102, .int v_103, .int v_104, .ref (G.2 u 35), .ref (G.2 u 36), .ref (G.2 u 37), .ref (G.2 u 38), .ref (G.2 u 39), .ref (G.2 u 40), .ref (G.2 u 41), .ref (G.2 u 42), .int v_105, .ref (G.2 u 44), .ref (G.2 u 45), .ref (G.2 u 46), .ref (G.2 u 47), .long y_106, .ref (G.2 u 49), .ref (G.2 u 50), .int v_107, .long y_108, .int v_109]) (ty0 := tyX12) G0 hw tyX12_ok nmX12 in_X12_feed_X12 rfl hr_122 (by decide) (by decide +kernel) rfl rfl rfl rfl (Nat.le_of_ble_eq_true rfl) rfl dX12_feed_106 (fun f_135 H_136 locs h_137 x_138 hw => ?_)
                  have hAG := hAG.kp (x_138 _ (hWF _ (by rw [wt12_1 hG Tu]; decide)).1 (wf_ne (wt12_1 hG Tu) Tu (by decide))).2
                  have hFK := hFK.put hr_122 h_137 2 (by decide) rfl
                  have hKP := hKP.upd hWF x_138 Tu (Or.inl (by decide))
                  have hWF := wf_upd hWF h_137 x_138 (by rw [Tu]; exact ⟨v_88, x_134, v_90, v_91, v_92, v_93, v_94, v_95, v_96, v_97, v_98, v_99, y_100, v_101, v_102, v_103, v_104, v_105, y_106, v_107, y_108, v_109, rfl, ⟨by omega, by omega⟩, ⟨by omega, by omega⟩, ⟨by omega, by omega⟩, ⟨by omega, by omega⟩, ⟨by omega, by omega⟩, ⟨by omega, by omega⟩, ⟨by omega, by omega⟩, ⟨by omega, by omega⟩, ⟨by omega, by omega⟩, ⟨by omega, by omega⟩, ⟨by omega, by omega⟩, ⟨by omega, by omega⟩⟩)
                  have h_130 := h_130.ext x_138 (Ne.symm (py_ne_arr hr_122 h_130))
                  have tq_139 := mi_row h_137 2 rfl
                  obtain ⟨x_140, ex_140⟩ : ∃ y : Int32, y = v_42 + 1 := ⟨_, rfl⟩
                  first | have tx_140 := ti_add ex_140 (by omega -splitDisjunctions) (by omega -splitDisjunctions) | skip
                  refine lv_iinc (v := x_140) (lv' := [(7, .int x_140), (8, .int r_84), (6, .int v_2), (0, .ref u), (1, .int a), (2, .int b), (3, .int q), (4, .int d), (5, .int v)]) G0.1 G0.2.1 dX12_feed_109 hl (k := 1) rfl (show _ + (1 : Int32) = _ from ex_140.symm) (by decide) rfl (fun ls hl => ?_)
                  refine lv_goto (tgt := 62) G0.1 G0.2.1 dX12_feed_112 (by decide) ?_
                  exact ih_62 ((2147483647 - x_140.toInt).toNat) (by omega) x_140 L_j62 f_135 _ _ ls rfl ⟨by omega, by omega⟩ hWF hKP hFK (by rw [show x_140.toInt = v_42.toInt + 1 by omega]; omega) (by first | omega | (intros; omega)) (by rw [show x_140.toInt = v_42.toInt + 1 by omega]; exact hAG) hw (lv_sub hl [0, 2, 3, 4, 5, 6, 7, 8] rfl)
          exact lo_62 _ 0 L f _ _ ls rfl ⟨by omega, by omega⟩ hWF hKP hFK (by rw [show ((cn6 a b q d v (0 : Int32).toInt.toNat : Nat) : Int) = 0 from rfl]; omega) (by first | omega | (intros; omega)) hMB hw (lv_sub hl [0, 1, 2, 3, 4, 5, 6, 7] rfl)
        · skip
          have tc_41 := ti_nle c_41
          refine lv_iconst (v := (-1)) G0.1 G0.2.1 dX12_feed_57 (by decide) ?_
          exact py_iret G0 hr rfl hlk hw ⟨(Or.inl ⟨by omega, by omega, by omega, hMB⟩), hWF, hKP, hFK⟩ dX12_feed_58
      · skip
        have tc_3 := ti_nle c_3
        refine lv_iload G0.1 G0.2.1 dX12_feed_13 (lv_at hl 1 rfl) ?_
        refine lv_iload_n G0.1 G0.2.1 dX12_feed_15 rfl (lv_at hl 3 rfl) ?_
        refine lv_iload_n G0.1 G0.2.1 dX12_feed_16 rfl (lv_at hl 4 rfl) ?_
        refine lv_iload_n G0.1 G0.2.1 dX12_feed_17 rfl (lv_at hl 5 rfl) ?_
        refine lv_iload G0.1 G0.2.1 dX12_feed_18 (lv_at hl 6 rfl) ?_
        refine lv_iload G0.1 G0.2.1 dX12_feed_20 (lv_at hl 7 rfl) ?_
        refine lv_iload G0.1 G0.2.1 dX12_feed_22 (lv_at hl 0 rfl) ?_
        refine py_calli hw (va_runS (As := [.int a, .int b, .int q, .int d, .int v, .int v_1]) (rest := [.int v_2]) G0 (c_X12_byteOf l E G L f H_j6.size a b q d v v_1 hG hWF) (va_cwS 6 G0.2.2.2.2 g_X12_feed_X12_byteOf_120 rfl rfl rfl (by decide +kernel) ⟨(Nat.le_of_ble_eq_true rfl), (Nat.le_of_ble_eq_true rfl)⟩) (py_preS hw) rfl rfl hl.1 rfl (lv_room (Nat.le_of_ble_eq_true rfl)) dX12_feed_24 ⟨(Nat.le_of_ble_eq_true rfl), (Nat.le_of_ble_eq_true rfl)⟩) (fun r_145 L_141 f_142 H_143 locs hp_144 hw => ?_)
        obtain ⟨en_146, rfl, rfl⟩ := hp_144
        have br_145 := wf_free r_145
        refine lv_if_eq (tgt := 34) G0.1 G0.2.1 dX12_feed_27 (by decide) (fun c_147 => ?_) (fun c_147 => ?_)
        · skip
          have tc_147 := ti_eq c_147
          refine lv_iconst (v := 0) G0.1 G0.2.1 dX12_feed_34 (by decide) ?_
          have hcl : (cn6 a b q d v v_1.toInt.toNat : Int) ≤ 20 := by have hcz := cn6_le a b q d v v_1.toInt.toNat; omega
          have hcn := cn6_0 (a := a) (b := b) (q := q) (d := d) (v := v) (n := v_1.toInt + 1) (by omega) en_146 (by omega) rfl
          refine lv_iadd G0.1 G0.2.1 dX12_feed_35 ?_
          refine lv_topi (fun x_148 ex_148 => ?_)
          first | have tx_148 := ti_add ex_148 (by omega -splitDisjunctions) (by omega -splitDisjunctions) | skip
          refine lv_istore (lv' := [(6, .int x_148), (7, .int v_1), (0, .ref u), (1, .int a), (2, .int b), (3, .int q), (4, .int d), (5, .int v)]) G0.1 G0.2.1 dX12_feed_36 hl (by decide) rfl (fun ls hl => ?_)
          obtain ⟨x_149, ex_149⟩ : ∃ y : Int32, y = v_1 + 1 := ⟨_, rfl⟩
          first | have tx_149 := ti_add ex_149 (by omega -splitDisjunctions) (by omega -splitDisjunctions) | skip
          refine lv_iinc (v := x_149) (lv' := [(7, .int x_149), (6, .int x_148), (0, .ref u), (1, .int a), (2, .int b), (3, .int q), (4, .int d), (5, .int v)]) G0.1 G0.2.1 dX12_feed_38 hl (k := 1) rfl (show _ + (1 : Int32) = _ from ex_149.symm) (by decide) rfl (fun ls hl => ?_)
          refine lv_goto (tgt := 6) G0.1 G0.2.1 dX12_feed_41 (by decide) ?_
          exact ih_6 ((2147483647 - x_149.toInt).toNat) (by omega) x_149 x_148 _ _ ls rfl ⟨by omega, by omega⟩ (by rw [show x_149.toInt = v_1.toInt + 1 by omega]; omega) (by first | omega | (intros; omega)) hw (lv_sub hl [0, 1, 2, 3, 4, 5, 6, 7] rfl)
        · skip
          have tc_147 := ti_ne c_147
          refine lv_iconst (v := 1) G0.1 G0.2.1 dX12_feed_30 (by decide) ?_
          refine lv_goto (tgt := 35) G0.1 G0.2.1 dX12_feed_31 (by decide) ?_
          have hcl : (cn6 a b q d v v_1.toInt.toNat : Int) ≤ 20 := by have hcz := cn6_le a b q d v v_1.toInt.toNat; omega
          have hcn := cn6_1 (a := a) (b := b) (q := q) (d := d) (v := v) (n := v_1.toInt + 1) (by omega) (by omega) en_146 (by omega) rfl
          refine lv_iadd G0.1 G0.2.1 dX12_feed_35 ?_
          refine lv_topi (fun x_150 ex_150 => ?_)
          first | have tx_150 := ti_add ex_150 (by omega -splitDisjunctions) (by omega -splitDisjunctions) | skip
          refine lv_istore (lv' := [(6, .int x_150), (7, .int v_1), (0, .ref u), (1, .int a), (2, .int b), (3, .int q), (4, .int d), (5, .int v)]) G0.1 G0.2.1 dX12_feed_36 hl (by decide) rfl (fun ls hl => ?_)
          obtain ⟨x_151, ex_151⟩ : ∃ y : Int32, y = v_1 + 1 := ⟨_, rfl⟩
          first | have tx_151 := ti_add ex_151 (by omega -splitDisjunctions) (by omega -splitDisjunctions) | skip
          refine lv_iinc (v := x_151) (lv' := [(7, .int x_151), (6, .int x_150), (0, .ref u), (1, .int a), (2, .int b), (3, .int q), (4, .int d), (5, .int v)]) G0.1 G0.2.1 dX12_feed_38 hl (k := 1) rfl (show _ + (1 : Int32) = _ from ex_151.symm) (by decide) rfl (fun ls hl => ?_)
          refine lv_goto (tgt := 6) G0.1 G0.2.1 dX12_feed_41 (by decide) ?_
          exact ih_6 ((2147483647 - x_151.toInt).toNat) (by omega) x_151 x_150 _ _ ls rfl ⟨by omega, by omega⟩ (by rw [show x_151.toInt = v_1.toInt + 1 by omega]; omega) (by first | omega | (intros; omega)) hw (lv_sub hl [0, 1, 2, 3, 4, 5, 6, 7] rfl)
  exact lo_6 _ 0 0 _ _ ls rfl ⟨by omega, by omega⟩ (by rw [show ((cn6 a b q d v (0 : Int32).toInt.toNat : Nat) : Int) = 0 from rfl]; omega) (by first | omega | (intros; omega)) hw (lv_sub hl [0, 1, 2, 3, 4, 5, 6, 7] rfl)
