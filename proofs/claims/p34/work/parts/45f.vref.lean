theorem dX12_items_0 : decode cX12_items 0 = .ok (.iconst 0, 1) := by decide +kernel
theorem dX12_items_1 : decode cX12_items 1 = .ok (.istore 4, 2) := by decide +kernel
theorem dX12_items_3 : decode cX12_items 3 = .ok (.iload 4, 2) := by decide +kernel
theorem dX12_items_5 : decode cX12_items 5 = .ok (.iconst 4, 1) := by decide +kernel
theorem dX12_items_6 : decode cX12_items 6 = .ok (.if_icmp .ge 21, 3) := by decide +kernel
theorem dX12_items_9 : decode cX12_items 9 = .ok (.aload_n 2, 1) := by decide +kernel
theorem dX12_items_10 : decode cX12_items 10 = .ok (.iload_n 3, 1) := by decide +kernel
theorem dX12_items_11 : decode cX12_items 11 = .ok (.iload 4, 2) := by decide +kernel
theorem dX12_items_13 : decode cX12_items 13 = .ok (.iadd, 1) := by decide +kernel
theorem dX12_items_14 : decode cX12_items 14 = .ok (.iload_n 1, 1) := by decide +kernel
theorem dX12_items_15 : decode cX12_items 15 = .ok (.iload 4, 2) := by decide +kernel
theorem dX12_items_17 : decode cX12_items 17 = .ok (.invokestatic 242, 3) := by decide +kernel
theorem dX12_items_20 : decode cX12_items 20 = .ok (.iastore, 1) := by decide +kernel
theorem dX12_items_21 : decode cX12_items 21 = .ok (.iinc 4 1, 3) := by decide +kernel
theorem dX12_items_24 : decode cX12_items 24 = .ok (.goto (-21), 3) := by decide +kernel
theorem dX12_items_27 : decode cX12_items 27 = .ok (.iconst 0, 1) := by decide +kernel
theorem dX12_items_28 : decode cX12_items 28 = .ok (.istore 4, 2) := by decide +kernel
theorem dX12_items_30 : decode cX12_items 30 = .ok (.aload_n 0, 1) := by decide +kernel
theorem dX12_items_31 : decode cX12_items 31 = .ok (.iload_n 1, 1) := by decide +kernel
theorem dX12_items_32 : decode cX12_items 32 = .ok (.invokevirtual 246, 3) := by decide +kernel
theorem dX12_items_35 : decode cX12_items 35 = .ok (.istore 5, 2) := by decide +kernel
theorem dX12_items_37 : decode cX12_items 37 = .ok (.aload_n 0, 1) := by decide +kernel
theorem dX12_items_38 : decode cX12_items 38 = .ok (.getfield 134, 3) := by decide +kernel
theorem dX12_items_41 : decode cX12_items 41 = .ok (.iconst (-1), 1) := by decide +kernel
theorem dX12_items_42 : decode cX12_items 42 = .ok (.if_icmp .ne 82, 3) := by decide +kernel
theorem dX12_items_45 : decode cX12_items 45 = .ok (.iload 5, 2) := by decide +kernel
theorem dX12_items_47 : decode cX12_items 47 = .ok (.iconst (-1), 1) := by decide +kernel
theorem dX12_items_48 : decode cX12_items 48 = .ok (.if_icmp .eq 76, 3) := by decide +kernel
theorem dX12_items_51 : decode cX12_items 51 = .ok (.iload 4, 2) := by decide +kernel
theorem dX12_items_53 : decode cX12_items 53 = .ok (.iload 5, 2) := by decide +kernel
theorem dX12_items_55 : decode cX12_items 55 = .ok (.invokestatic 250, 3) := by decide +kernel
theorem dX12_items_58 : decode cX12_items 58 = .ok (.ifCond .ne 66, 3) := by decide +kernel
theorem dX12_items_61 : decode cX12_items 61 = .ok (.iload 4, 2) := by decide +kernel
theorem dX12_items_63 : decode cX12_items 63 = .ok (.iconst 1, 1) := by decide +kernel
theorem dX12_items_64 : decode cX12_items 64 = .ok (.iload 5, 2) := by decide +kernel
theorem dX12_items_66 : decode cX12_items 66 = .ok (.ishl, 1) := by decide +kernel
theorem dX12_items_67 : decode cX12_items 67 = .ok (.ior, 1) := by decide +kernel
theorem dX12_items_68 : decode cX12_items 68 = .ok (.istore 4, 2) := by decide +kernel
theorem dX12_items_70 : decode cX12_items 70 = .ok (.aload_n 0, 1) := by decide +kernel
theorem dX12_items_71 : decode cX12_items 71 = .ok (.dup, 1) := by decide +kernel
theorem dX12_items_72 : decode cX12_items 72 = .ok (.getfield 127, 3) := by decide +kernel
theorem dX12_items_75 : decode cX12_items 75 = .ok (.iconst 1, 1) := by decide +kernel
theorem dX12_items_76 : decode cX12_items 76 = .ok (.iadd, 1) := by decide +kernel
theorem dX12_items_77 : decode cX12_items 77 = .ok (.putfield 127, 3) := by decide +kernel
theorem dX12_items_80 : decode cX12_items 80 = .ok (.aload_n 2, 1) := by decide +kernel
theorem dX12_items_81 : decode cX12_items 81 = .ok (.iload_n 3, 1) := by decide +kernel
theorem dX12_items_82 : decode cX12_items 82 = .ok (.iload 5, 2) := by decide +kernel
theorem dX12_items_84 : decode cX12_items 84 = .ok (.iadd, 1) := by decide +kernel
theorem dX12_items_85 : decode cX12_items 85 = .ok (.aload_n 0, 1) := by decide +kernel
theorem dX12_items_86 : decode cX12_items 86 = .ok (.iload_n 1, 1) := by decide +kernel
theorem dX12_items_87 : decode cX12_items 87 = .ok (.iload 5, 2) := by decide +kernel
theorem dX12_items_89 : decode cX12_items 89 = .ok (.invokestatic 254, 3) := by decide +kernel
theorem dX12_items_92 : decode cX12_items 92 = .ok (.iload_n 1, 1) := by decide +kernel
theorem dX12_items_93 : decode cX12_items 93 = .ok (.iload 5, 2) := by decide +kernel
theorem dX12_items_95 : decode cX12_items 95 = .ok (.invokestatic 257, 3) := by decide +kernel
theorem dX12_items_98 : decode cX12_items 98 = .ok (.invokevirtual 260, 3) := by decide +kernel
theorem dX12_items_101 : decode cX12_items 101 = .ok (.iastore, 1) := by decide +kernel
theorem dX12_items_102 : decode cX12_items 102 = .ok (.aload_n 0, 1) := by decide +kernel
theorem dX12_items_103 : decode cX12_items 103 = .ok (.getfield 134, 3) := by decide +kernel
theorem dX12_items_106 : decode cX12_items 106 = .ok (.iconst (-1), 1) := by decide +kernel
theorem dX12_items_107 : decode cX12_items 107 = .ok (.if_icmp .ne 11, 3) := by decide +kernel
theorem dX12_items_110 : decode cX12_items 110 = .ok (.aload_n 0, 1) := by decide +kernel
theorem dX12_items_111 : decode cX12_items 111 = .ok (.iload_n 1, 1) := by decide +kernel
theorem dX12_items_112 : decode cX12_items 112 = .ok (.invokevirtual 246, 3) := by decide +kernel
theorem dX12_items_115 : decode cX12_items 115 = .ok (.goto 4, 3) := by decide +kernel
theorem dX12_items_118 : decode cX12_items 118 = .ok (.iconst (-1), 1) := by decide +kernel
theorem dX12_items_119 : decode cX12_items 119 = .ok (.istore 5, 2) := by decide +kernel
theorem dX12_items_121 : decode cX12_items 121 = .ok (.goto (-84), 3) := by decide +kernel
theorem dX12_items_124 : decode cX12_items 124 = .ok (.return_, 1) := by decide +kernel
set_option maxHeartbeats 4000000 in
set_option maxRecDepth 100000 in
theorem c_X12_lowestV (l : Launch) (E : py_E) (G : wf_G) (L : List Nat) (f : py_F) (sz : Nat) (a : Int32) (b : Int32) (hG : GT G) (hWF : WF E G L f) : Met l yX12_lowest w_X12_lowest ({ frames := 0, cells := 0, slots := 0, locals := 0 }) (py_Pc E [.int a, .int b] L f sz) (py_Qi E L f sz (fun r L1 f1 => (b.toInt = 0 → r.toInt = 1) ∧ (b.toInt ≠ 0 → r.toInt = 0) ∧ L = L1 ∧ f = f1)) 0 0 (va_A (va_pl L f) sz) := by
  refine Met.ofW (cc := cX12_lowest) (maxL := 2) (ret := (some .int)) (by decide) rfl ?_
  intro p e s m args below meth c s₁ B hml hv
  obtain ⟨rfl, rfl, hw⟩ := py_start hv
  have G0 : CallFix p m c cX12_lowest 2 s _ w_X12_lowest RX12 := ⟨B.exec, B.bytes, hml, findClass_of_methodNamed B.named, atoms_spec (ws := w_X12_lowest) B.pre⟩
  have hr := B.returns
  have hlk := B.notSynchronized
  have kcm1 : (-1 : Int32).toInt = -1 := rfl
  have kc0 : (0 : Int32).toInt = 0 := rfl
  have kc1 : (1 : Int32).toInt = 1 := rfl
  have hl := lv_entry ([.int a, .int b]) (n := 2) (Nat.le_of_ble_eq_true rfl)
  rw [lg_entry_eq]
  generalize (lg_sl ([.int a, .int b]) ++ List.replicate (2 - (lg_sl ([.int a, .int b])).length) Slot.unset).toArray = ls at hl ⊢
  have hl : lv_has ls 2 [(0, .int a), (1, .int b)] := hl
  refine lv_iload_n G0.1 G0.2.1 dX12_lowest_0 rfl (lv_at hl 1 rfl) ?_
  refine lv_if_ne (tgt := 8) G0.1 G0.2.1 dX12_lowest_1 (by decide) (fun c_1 => ?_) (fun c_1 => ?_)
  · skip
    have tc_1 := ti_ne c_1
    refine lv_iconst (v := 0) G0.1 G0.2.1 dX12_lowest_8 (by decide) ?_
    exact py_iret G0 hr rfl hlk hw ⟨(by first | omega | (intro q; omega)), (by first | omega | (intro q; omega)), rfl, rfl⟩ dX12_lowest_9
  · skip
    have tc_1 := ti_eq c_1
    refine lv_iconst (v := 1) G0.1 G0.2.1 dX12_lowest_4 (by decide) ?_
    refine lv_goto (tgt := 9) G0.1 G0.2.1 dX12_lowest_5 (by decide) ?_
    exact py_iret G0 hr rfl hlk hw ⟨(by first | omega | (intro q; omega)), (by first | omega | (intro q; omega)), rfl, rfl⟩ dX12_lowest_9

set_option maxHeartbeats 4000000 in
set_option maxRecDepth 100000 in
theorem c_X12_highestV (l : Launch) (E : py_E) (G : wf_G) (L : List Nat) (f : py_F) (sz : Nat) (a : Int32) (b : Int32) (hG : GT G) (hWF : WF E G L f) : Met l yX12_highest w_X12_highest ({ frames := 0, cells := 0, slots := 0, locals := 0 }) (py_Pc E [.int a, .int b] L f sz) (py_Qi E L f sz (fun r L1 f1 => (a.toInt = 1 → (b.toInt = 0 ∧ r.toInt = 4) ∨ (b.toInt = 1 ∧ r.toInt = 99) ∨ (b.toInt = 2 ∧ r.toInt = 50) ∨ (b.toInt ≠ 0 ∧ b.toInt ≠ 1 ∧ b.toInt ≠ 2 ∧ r.toInt = 1)) ∧ (a.toInt = 0 → (b.toInt = 0 ∧ r.toInt = 12) ∨ (b.toInt = 1 ∧ r.toInt = 7) ∨ (b.toInt ≠ 0 ∧ b.toInt ≠ 1 ∧ r.toInt = 100)) ∧ L = L1 ∧ f = f1)) 0 0 (va_A (va_pl L f) sz) := by
  refine Met.ofW (cc := cX12_highest) (maxL := 2) (ret := (some .int)) (by decide) rfl ?_
  intro p e s m args below meth c s₁ B hml hv
  obtain ⟨rfl, rfl, hw⟩ := py_start hv
  have G0 : CallFix p m c cX12_highest 2 s _ w_X12_highest RX12 := ⟨B.exec, B.bytes, hml, findClass_of_methodNamed B.named, atoms_spec (ws := w_X12_highest) B.pre⟩
  have hr := B.returns
  have hlk := B.notSynchronized
  have kcm1 : (-1 : Int32).toInt = -1 := rfl
  have kc0 : (0 : Int32).toInt = 0 := rfl
  have kc1 : (1 : Int32).toInt = 1 := rfl
  have kc2 : (2 : Int32).toInt = 2 := rfl
  have kc4 : (4 : Int32).toInt = 4 := rfl
  have kc7 : (7 : Int32).toInt = 7 := rfl
  have kc12 : (12 : Int32).toInt = 12 := rfl
  have kc50 : (50 : Int32).toInt = 50 := rfl
  have kc99 : (99 : Int32).toInt = 99 := rfl
  have kc100 : (100 : Int32).toInt = 100 := rfl
  have hl := lv_entry ([.int a, .int b]) (n := 2) (Nat.le_of_ble_eq_true rfl)
  rw [lg_entry_eq]
  generalize (lg_sl ([.int a, .int b]) ++ List.replicate (2 - (lg_sl ([.int a, .int b])).length) Slot.unset).toArray = ls at hl ⊢
  have hl : lv_has ls 2 [(0, .int a), (1, .int b)] := hl
  refine lv_iload_n G0.1 G0.2.1 dX12_highest_0 rfl (lv_at hl 0 rfl) ?_
  refine lv_if_eq (tgt := 36) G0.1 G0.2.1 dX12_highest_1 (by decide) (fun c_1 => ?_) (fun c_1 => ?_)
  · skip
    have tc_1 := ti_eq c_1
    refine lv_iload_n G0.1 G0.2.1 dX12_highest_36 rfl (lv_at hl 1 rfl) ?_
    refine lv_if_ne (tgt := 45) G0.1 G0.2.1 dX12_highest_37 (by decide) (fun c_2 => ?_) (fun c_2 => ?_)
    · skip
      have tc_2 := ti_ne c_2
      refine lv_iload_n G0.1 G0.2.1 dX12_highest_45 rfl (lv_at hl 1 rfl) ?_
      refine lv_iconst (v := 1) G0.1 G0.2.1 dX12_highest_46 (by decide) ?_
      refine lv_icmp_ne (tgt := 55) G0.1 G0.2.1 dX12_highest_47 (by decide) (fun c_3 => ?_) (fun c_3 => ?_)
      · skip
        have tc_3 := ti_ne c_3
        refine lv_bipush (v := 100) G0.1 G0.2.1 dX12_highest_55 (by decide) ?_
        exact py_iret G0 hr rfl hlk hw ⟨(by first | omega | (intro q; omega)), (by first | omega | (intro q; omega)), rfl, rfl⟩ dX12_highest_57
      · skip
        have tc_3 := ti_eq c_3
        refine lv_bipush (v := 7) G0.1 G0.2.1 dX12_highest_50 (by decide) ?_
        refine lv_goto (tgt := 57) G0.1 G0.2.1 dX12_highest_52 (by decide) ?_
        exact py_iret G0 hr rfl hlk hw ⟨(by first | omega | (intro q; omega)), (by first | omega | (intro q; omega)), rfl, rfl⟩ dX12_highest_57
    · skip
      have tc_2 := ti_eq c_2
      refine lv_bipush (v := 12) G0.1 G0.2.1 dX12_highest_40 (by decide) ?_
      refine lv_goto (tgt := 57) G0.1 G0.2.1 dX12_highest_42 (by decide) ?_
      exact py_iret G0 hr rfl hlk hw ⟨(by first | omega | (intro q; omega)), (by first | omega | (intro q; omega)), rfl, rfl⟩ dX12_highest_57
  · skip
    have tc_1 := ti_ne c_1
    refine lv_iload_n G0.1 G0.2.1 dX12_highest_4 rfl (lv_at hl 1 rfl) ?_
    refine lv_if_ne (tgt := 12) G0.1 G0.2.1 dX12_highest_5 (by decide) (fun c_4 => ?_) (fun c_4 => ?_)
    · skip
      have tc_4 := ti_ne c_4
      refine lv_iload_n G0.1 G0.2.1 dX12_highest_12 rfl (lv_at hl 1 rfl) ?_
      refine lv_iconst (v := 1) G0.1 G0.2.1 dX12_highest_13 (by decide) ?_
      refine lv_icmp_ne (tgt := 22) G0.1 G0.2.1 dX12_highest_14 (by decide) (fun c_5 => ?_) (fun c_5 => ?_)
      · skip
        have tc_5 := ti_ne c_5
        refine lv_iload_n G0.1 G0.2.1 dX12_highest_22 rfl (lv_at hl 1 rfl) ?_
        refine lv_iconst (v := 2) G0.1 G0.2.1 dX12_highest_23 (by decide) ?_
        refine lv_icmp_ne (tgt := 32) G0.1 G0.2.1 dX12_highest_24 (by decide) (fun c_6 => ?_) (fun c_6 => ?_)
        · skip
          have tc_6 := ti_ne c_6
          refine lv_iconst (v := 1) G0.1 G0.2.1 dX12_highest_32 (by decide) ?_
          refine lv_goto (tgt := 57) G0.1 G0.2.1 dX12_highest_33 (by decide) ?_
          exact py_iret G0 hr rfl hlk hw ⟨(by first | omega | (intro q; omega)), (by first | omega | (intro q; omega)), rfl, rfl⟩ dX12_highest_57
        · skip
          have tc_6 := ti_eq c_6
          refine lv_bipush (v := 50) G0.1 G0.2.1 dX12_highest_27 (by decide) ?_
          refine lv_goto (tgt := 57) G0.1 G0.2.1 dX12_highest_29 (by decide) ?_
          exact py_iret G0 hr rfl hlk hw ⟨(by first | omega | (intro q; omega)), (by first | omega | (intro q; omega)), rfl, rfl⟩ dX12_highest_57
      · skip
        have tc_5 := ti_eq c_5
        refine lv_bipush (v := 99) G0.1 G0.2.1 dX12_highest_17 (by decide) ?_
        refine lv_goto (tgt := 57) G0.1 G0.2.1 dX12_highest_19 (by decide) ?_
        exact py_iret G0 hr rfl hlk hw ⟨(by first | omega | (intro q; omega)), (by first | omega | (intro q; omega)), rfl, rfl⟩ dX12_highest_57
    · skip
      have tc_4 := ti_eq c_4
      refine lv_iconst (v := 4) G0.1 G0.2.1 dX12_highest_8 (by decide) ?_
      refine lv_goto (tgt := 57) G0.1 G0.2.1 dX12_highest_9 (by decide) ?_
      exact py_iret G0 hr rfl hlk hw ⟨(by first | omega | (intro q; omega)), (by first | omega | (intro q; omega)), rfl, rfl⟩ dX12_highest_57

set_option maxHeartbeats 4000000 in
set_option maxRecDepth 100000 in
theorem c_X12_usualV (l : Launch) (E : py_E) (G : wf_G) (L : List Nat) (f : py_F) (sz : Nat) (a : Int32) (b : Int32) (hG : GT G) (hWF : WF E G L f) : Met l yX12_usual w_X12_usual ({ frames := 0, cells := 0, slots := 0, locals := 0 }) (py_Pc E [.int a, .int b] L f sz) (py_Qi E L f sz (fun r L1 f1 => (a.toInt = 1 → b.toInt = 0 → r.toInt = 2) ∧ (a.toInt = 1 → b.toInt = 1 → r.toInt = 20) ∧ (a.toInt = 0 → b.toInt = 0 → r.toInt = 4) ∧ (a.toInt = 0 → b.toInt = 1 → r.toInt = 0) ∧ L = L1 ∧ f = f1)) 0 0 (va_A (va_pl L f) sz) := by
  refine Met.ofW (cc := cX12_usual) (maxL := 2) (ret := (some .int)) (by decide) rfl ?_
  intro p e s m args below meth c s₁ B hml hv
  obtain ⟨rfl, rfl, hw⟩ := py_start hv
  have G0 : CallFix p m c cX12_usual 2 s _ w_X12_usual RX12 := ⟨B.exec, B.bytes, hml, findClass_of_methodNamed B.named, atoms_spec (ws := w_X12_usual) B.pre⟩
  have hr := B.returns
  have hlk := B.notSynchronized
  have kcm1 : (-1 : Int32).toInt = -1 := rfl
  have kc0 : (0 : Int32).toInt = 0 := rfl
  have kc1 : (1 : Int32).toInt = 1 := rfl
  have kc2 : (2 : Int32).toInt = 2 := rfl
  have kc4 : (4 : Int32).toInt = 4 := rfl
  have kc5 : (5 : Int32).toInt = 5 := rfl
  have kc20 : (20 : Int32).toInt = 20 := rfl
  have kc30 : (30 : Int32).toInt = 30 := rfl
  have hl := lv_entry ([.int a, .int b]) (n := 2) (Nat.le_of_ble_eq_true rfl)
  rw [lg_entry_eq]
  generalize (lg_sl ([.int a, .int b]) ++ List.replicate (2 - (lg_sl ([.int a, .int b])).length) Slot.unset).toArray = ls at hl ⊢
  have hl : lv_has ls 2 [(0, .int a), (1, .int b)] := hl
  refine lv_iload_n G0.1 G0.2.1 dX12_usual_0 rfl (lv_at hl 0 rfl) ?_
  refine lv_if_eq (tgt := 35) G0.1 G0.2.1 dX12_usual_1 (by decide) (fun c_1 => ?_) (fun c_1 => ?_)
  · skip
    have tc_1 := ti_eq c_1
    refine lv_iload_n G0.1 G0.2.1 dX12_usual_35 rfl (lv_at hl 1 rfl) ?_
    refine lv_if_ne (tgt := 43) G0.1 G0.2.1 dX12_usual_36 (by decide) (fun c_2 => ?_) (fun c_2 => ?_)
    · skip
      have tc_2 := ti_ne c_2
      refine lv_iload_n G0.1 G0.2.1 dX12_usual_43 rfl (lv_at hl 1 rfl) ?_
      refine lv_iconst (v := 1) G0.1 G0.2.1 dX12_usual_44 (by decide) ?_
      refine lv_icmp_ne (tgt := 52) G0.1 G0.2.1 dX12_usual_45 (by decide) (fun c_3 => ?_) (fun c_3 => ?_)
      · skip
        have tc_3 := ti_ne c_3
        refine lv_iload_n G0.1 G0.2.1 dX12_usual_52 rfl (lv_at hl 1 rfl) ?_
        refine lv_iconst (v := 2) G0.1 G0.2.1 dX12_usual_53 (by decide) ?_
        refine lv_icmp_ne (tgt := 62) G0.1 G0.2.1 dX12_usual_54 (by decide) (fun c_4 => ?_) (fun c_4 => ?_)
        · skip
          have tc_4 := ti_ne c_4
          refine lv_iconst (v := 5) G0.1 G0.2.1 dX12_usual_62 (by decide) ?_
          exact py_iret G0 hr rfl hlk hw ⟨(by first | omega | (intro q; omega)), (by first | omega | (intro q; omega)), (by first | omega | (intro q; omega)), (by first | omega | (intro q; omega)), rfl, rfl⟩ dX12_usual_63
        · skip
          have tc_4 := ti_eq c_4
          refine lv_bipush (v := 30) G0.1 G0.2.1 dX12_usual_57 (by decide) ?_
          refine lv_goto (tgt := 63) G0.1 G0.2.1 dX12_usual_59 (by decide) ?_
          exact py_iret G0 hr rfl hlk hw ⟨(by first | omega | (intro q; omega)), (by first | omega | (intro q; omega)), (by first | omega | (intro q; omega)), (by first | omega | (intro q; omega)), rfl, rfl⟩ dX12_usual_63
      · skip
        have tc_3 := ti_eq c_3
        refine lv_iconst (v := 0) G0.1 G0.2.1 dX12_usual_48 (by decide) ?_
        refine lv_goto (tgt := 63) G0.1 G0.2.1 dX12_usual_49 (by decide) ?_
        exact py_iret G0 hr rfl hlk hw ⟨(by first | omega | (intro q; omega)), (by first | omega | (intro q; omega)), (by first | omega | (intro q; omega)), (by first | omega | (intro q; omega)), rfl, rfl⟩ dX12_usual_63
    · skip
      have tc_2 := ti_eq c_2
      refine lv_iconst (v := 4) G0.1 G0.2.1 dX12_usual_39 (by decide) ?_
      refine lv_goto (tgt := 63) G0.1 G0.2.1 dX12_usual_40 (by decide) ?_
      exact py_iret G0 hr rfl hlk hw ⟨(by first | omega | (intro q; omega)), (by first | omega | (intro q; omega)), (by first | omega | (intro q; omega)), (by first | omega | (intro q; omega)), rfl, rfl⟩ dX12_usual_63
  · skip
    have tc_1 := ti_ne c_1
    refine lv_iload_n G0.1 G0.2.1 dX12_usual_4 rfl (lv_at hl 1 rfl) ?_
    refine lv_if_ne (tgt := 12) G0.1 G0.2.1 dX12_usual_5 (by decide) (fun c_5 => ?_) (fun c_5 => ?_)
    · skip
      have tc_5 := ti_ne c_5
      refine lv_iload_n G0.1 G0.2.1 dX12_usual_12 rfl (lv_at hl 1 rfl) ?_
      refine lv_iconst (v := 1) G0.1 G0.2.1 dX12_usual_13 (by decide) ?_
      refine lv_icmp_ne (tgt := 22) G0.1 G0.2.1 dX12_usual_14 (by decide) (fun c_6 => ?_) (fun c_6 => ?_)
      · skip
        have tc_6 := ti_ne c_6
        refine lv_iload_n G0.1 G0.2.1 dX12_usual_22 rfl (lv_at hl 1 rfl) ?_
        refine lv_iconst (v := 2) G0.1 G0.2.1 dX12_usual_23 (by decide) ?_
        refine lv_icmp_ne (tgt := 31) G0.1 G0.2.1 dX12_usual_24 (by decide) (fun c_7 => ?_) (fun c_7 => ?_)
        · skip
          have tc_7 := ti_ne c_7
          refine lv_iconst (v := 0) G0.1 G0.2.1 dX12_usual_31 (by decide) ?_
          refine lv_goto (tgt := 63) G0.1 G0.2.1 dX12_usual_32 (by decide) ?_
          exact py_iret G0 hr rfl hlk hw ⟨(by first | omega | (intro q; omega)), (by first | omega | (intro q; omega)), (by first | omega | (intro q; omega)), (by first | omega | (intro q; omega)), rfl, rfl⟩ dX12_usual_63
        · skip
          have tc_7 := ti_eq c_7
          refine lv_iconst (v := 5) G0.1 G0.2.1 dX12_usual_27 (by decide) ?_
          refine lv_goto (tgt := 63) G0.1 G0.2.1 dX12_usual_28 (by decide) ?_
          exact py_iret G0 hr rfl hlk hw ⟨(by first | omega | (intro q; omega)), (by first | omega | (intro q; omega)), (by first | omega | (intro q; omega)), (by first | omega | (intro q; omega)), rfl, rfl⟩ dX12_usual_63
      · skip
        have tc_6 := ti_eq c_6
        refine lv_bipush (v := 20) G0.1 G0.2.1 dX12_usual_17 (by decide) ?_
        refine lv_goto (tgt := 63) G0.1 G0.2.1 dX12_usual_19 (by decide) ?_
        exact py_iret G0 hr rfl hlk hw ⟨(by first | omega | (intro q; omega)), (by first | omega | (intro q; omega)), (by first | omega | (intro q; omega)), (by first | omega | (intro q; omega)), rfl, rfl⟩ dX12_usual_63
    · skip
      have tc_5 := ti_eq c_5
      refine lv_iconst (v := 2) G0.1 G0.2.1 dX12_usual_8 (by decide) ?_
      refine lv_goto (tgt := 63) G0.1 G0.2.1 dX12_usual_9 (by decide) ?_
      exact py_iret G0 hr rfl hlk hw ⟨(by first | omega | (intro q; omega)), (by first | omega | (intro q; omega)), (by first | omega | (intro q; omega)), (by first | omega | (intro q; omega)), rfl, rfl⟩ dX12_usual_63

def w_X12_items : List Cond := .code yX12_items cX12_items 6 none :: ([Cond.methodLink RX12 246 yX12_itemNow, Cond.instanceMethod yX12_itemNow, Cond.selects RX12 yX12_itemNow yX12_itemNow, Cond.initialized RX12, Cond.fieldLink RX12 134 "HeadYearModel" "wrong" "I", Cond.methodLink RX12 250 yX12_has, Cond.static yX12_has, Cond.fieldLink RX12 127 "HeadYearModel" "at" "I", Cond.methodLink RX12 254 yX12_lowest, Cond.static yX12_lowest, Cond.methodLink RX12 257 yX12_highest, Cond.static yX12_highest, Cond.methodLink RX12 260 yX12_number, Cond.instanceMethod yX12_number, Cond.selects RX12 yX12_number yX12_number, Cond.methodLink RX12 242 yX12_usual, Cond.static yX12_usual] ++ (u_ws RX12 TX12 54 ++ (w_X12_itemNow ++ (w_X12_has ++ (w_X12_lowest ++ (w_X12_highest ++ (w_X12_number ++ (w_X12_usual ++ ([])))))))))
theorem in_X12_items_X12 : ∀ w ∈ u_ws RX12 TX12 54, w ∈ w_X12_items := fun _ h => List.mem_cons_of_mem _ (List.mem_append_right _ (List.mem_append_left _ h))
theorem gg_X12_items_X12_itemNow : GoodIn w_X12_items w_X12_itemNow := goodIn_sub (fun _ h => List.mem_cons_of_mem _ (List.mem_append_right _ (List.mem_append_right _ (List.mem_append_left _ h)))) (by decide +kernel)
theorem gg_X12_items_X12_has : GoodIn w_X12_items w_X12_has := goodIn_sub (fun _ h => List.mem_cons_of_mem _ (List.mem_append_right _ (List.mem_append_right _ (List.mem_append_right _ (List.mem_append_left _ h))))) (by decide +kernel)
theorem gg_X12_items_X12_lowest : GoodIn w_X12_items w_X12_lowest := goodIn_sub (fun _ h => List.mem_cons_of_mem _ (List.mem_append_right _ (List.mem_append_right _ (List.mem_append_right _ (List.mem_append_right _ (List.mem_append_left _ h)))))) (by decide +kernel)
theorem gg_X12_items_X12_highest : GoodIn w_X12_items w_X12_highest := goodIn_sub (fun _ h => List.mem_cons_of_mem _ (List.mem_append_right _ (List.mem_append_right _ (List.mem_append_right _ (List.mem_append_right _ (List.mem_append_right _ (List.mem_append_left _ h))))))) (by decide +kernel)
theorem gg_X12_items_X12_number : GoodIn w_X12_items w_X12_number := goodIn_sub (fun _ h => List.mem_cons_of_mem _ (List.mem_append_right _ (List.mem_append_right _ (List.mem_append_right _ (List.mem_append_right _ (List.mem_append_right _ (List.mem_append_right _ (List.mem_append_left _ h)))))))) (by decide +kernel)
theorem gg_X12_items_X12_usual : GoodIn w_X12_items w_X12_usual := goodIn_sub (fun _ h => List.mem_cons_of_mem _ (List.mem_append_right _ (List.mem_append_right _ (List.mem_append_right _ (List.mem_append_right _ (List.mem_append_right _ (List.mem_append_right _ (List.mem_append_right _ (List.mem_append_left _ h))))))))) (by decide +kernel)
theorem g_X12_items_X12_has_250 : GoodIn w_X12_items (va_wsS RX12 250 yX12_has w_X12_has) := goodIn_app (goodIn_of _ (by decide +kernel)) gg_X12_items_X12_has
theorem g_X12_items_X12_highest_257 : GoodIn w_X12_items (va_wsS RX12 257 yX12_highest w_X12_highest) := goodIn_app (goodIn_of _ (by decide +kernel)) gg_X12_items_X12_highest
theorem g_X12_items_X12_itemNow_246 : GoodIn w_X12_items (wsV RX12 246 RX12 yX12_itemNow w_X12_itemNow) := goodIn_app (goodIn_of _ (by decide +kernel)) gg_X12_items_X12_itemNow
theorem g_X12_items_X12_lowest_254 : GoodIn w_X12_items (va_wsS RX12 254 yX12_lowest w_X12_lowest) := goodIn_app (goodIn_of _ (by decide +kernel)) gg_X12_items_X12_lowest
theorem g_X12_items_X12_number_260 : GoodIn w_X12_items (wsV RX12 260 RX12 yX12_number w_X12_number) := goodIn_app (goodIn_of _ (by decide +kernel)) gg_X12_items_X12_number
theorem g_X12_items_X12_usual_242 : GoodIn w_X12_items (va_wsS RX12 242 yX12_usual w_X12_usual) := goodIn_app (goodIn_of _ (by decide +kernel)) gg_X12_items_X12_usual
set_option maxHeartbeats 4000000 in
set_option maxRecDepth 100000 in
theorem c_X12_items50 (l : Launch) (E : py_E) (G : wf_G) (L : List Nat) (f : py_F) (sz : Nat) (u : Nat) (q : Nat) (b : Int32) (gb : rs_B) (nb : Int) (pb : Int) (hG : GT G) (hWF : WF E G L f) (Tu : G.1 u = 13) (Tq : G.1 q = 50) (Bb : (0 ≤ b.toInt ∧ b.toInt ≤ 28)) (hp0 : 0 ≤ mi f u 3 ∧ mi f u 3 ≤ mi f u 2 ∧ mi f u 4 = -1) (hp1 : mi f u 3 = pb) (hp2 : mi f u 2 = nb ∧ 0 ≤ pb) (hq0 : AG f (G.2 u 1) gb nb) : Met l yX12_items w_X12_items ({ frames := 3, cells := 0, slots := 0, locals := 64 }) (py_Pc E [.ref u, .int 1, .ref q, .int b] L f sz) (py_Qv E L f sz (fun L1 f1 => (mi f u 3 ≤ mi f1 u 3 ∧ mi f1 u 3 ≤ mi f u 2) ∧ (mi f1 u 4 = -1 → IX gb nb (rv_is gb nb 1 pb) (mi f1 u 3) (arz f1 q b.toInt) (arz f1 q (b.toInt + 1))) ∧ (mi f1 u 4 ≠ -1 → (rv_is gb nb 1 pb).1.1 = 0 ∧ mi f1 u 4 = (rv_is gb nb 1 pb).1.2) ∧ (PFX f f1 q b.toInt) ∧ (mi f1 u 4 = -1 → 0 ≤ arz f1 q b.toInt) ∧ WF E G L1 f1 ∧ KP G [50, 13] false f f1 ∧ FK [3, 4] f f1 u)) 0 0 (va_A (va_pl L f) sz) := by
  refine Met.ofW (cc := cX12_items) (maxL := 6) (ret := none) (by decide) rfl ?_
  intro p e s m args below meth c s₁ B hml hv
  obtain ⟨rfl, rfl, hw⟩ := py_start hv
  have G0 : CallFix p m c cX12_items 6 s _ w_X12_items RX12 := ⟨B.exec, B.bytes, hml, findClass_of_methodNamed B.named, atoms_spec (ws := w_X12_items) B.pre⟩
  have hr := B.returns
  have hlk := B.notSynchronized
  have kcm1 : (-1 : Int32).toInt = -1 := rfl
  have kc0 : (0 : Int32).toInt = 0 := rfl
  have kc1 : (1 : Int32).toInt = 1 := rfl
  have kc4 : (4 : Int32).toInt = 4 := rfl
  have hl := lv_entry ([.ref u, .int 1, .ref q, .int b]) (n := 6) (Nat.le_of_ble_eq_true rfl)
  rw [lg_entry_eq]
  generalize (lg_sl ([.ref u, .int 1, .ref q, .int b]) ++ List.replicate (6 - (lg_sl ([.ref u, .int 1, .ref q, .int b])).length) Slot.unset).toArray = ls at hl ⊢
  have hl : lv_has ls 6 [(0, .ref u), (1, .int 1), (2, .ref q), (3, .int b)] := hl
  have hFK : FK [3, 4] f f u := FK.refl
  have hKP : KP G [50, 13] false f f := KP.refl
  have hMB := hq0
  refine lv_iconst (v := 0) G0.1 G0.2.1 dX12_items_0 (by decide) ?_
  refine lv_istore (lv' := [(4, .int 0), (0, .ref u), (1, .int 1), (2, .ref q), (3, .int b)]) G0.1 G0.2.1 dX12_items_1 hl (by decide) rfl (fun ls hl => ?_)
  have lo_3 : ∀ n_3 : Nat, ∀ (v_1 : Int32) (L_j3 : List Nat) (f_j3 : py_F) (H_j3 : Heap) (locs : List Loc) (ls : Array Slot), (2147483647 - v_1.toInt).toNat = n_3 → (0 ≤ v_1.toInt ∧ v_1.toInt ≤ 4) → WF E G L_j3 f_j3 → KP G [50, 13] false f f_j3 → AG f_j3 (G.2 u 1) gb nb → FK [3, 4] f f_j3 u → (PFX f f_j3 q b.toInt) → (mi f_j3 u 3 = mi f u 3 ∧ mi f_j3 u 4 = mi f u 4 ∧ mi f_j3 u 2 = mi f u 2) → (1 ≤ v_1.toInt → arz f_j3 q b.toInt = 2) → (2 ≤ v_1.toInt → arz f_j3 q (b.toInt + 1) = 20) → py_W E (va_A (va_pl L f) s.heap.size) s L_j3 f_j3 H_j3 locs → lv_has ls 6 [(4, .int v_1), (0, .ref u), (1, .int 1), (2, .ref q), (3, .int b)] → W p l e (headSpec w_X12_items ({ frames := 3, cells := 0, slots := 0, locals := 64 })).room s m ([.ref u, .int 1, .ref q, .int b] : List Value).toArray below meth c H_j3 locs 0 0 (MQ below (py_Qv E L f s.heap.size (fun L1 f1 => (mi f u 3 ≤ mi f1 u 3 ∧ mi f1 u 3 ≤ mi f u 2) ∧ (mi f1 u 4 = -1 → IX gb nb (rv_is gb nb 1 pb) (mi f1 u 3) (arz f1 q b.toInt) (arz f1 q (b.toInt + 1))) ∧ (mi f1 u 4 ≠ -1 → (rv_is gb nb 1 pb).1.1 = 0 ∧ mi f1 u 4 = (rv_is gb nb 1 pb).1.2) ∧ (PFX f f1 q b.toInt) ∧ (mi f1 u 4 = -1 → 0 ≤ arz f1 q b.toInt) ∧ WF E G L1 f1 ∧ KP G [50, 13] false f f1 ∧ FK [3, 4] f f1 u)) ([.ref u, .int 1, .ref q, .int b] : List Value).toArray s 0 0 (va_A (va_pl L f) s.heap.size)) (F0 m 3 ls []) := by
    intro n_3
    induction n_3 using Nat.strongRecOn with
    | _ n_3 ih_3 =>
      intro v_1 L_j3 f_j3 H_j3 locs ls hn_3 bv_1 hWF hKP hMB hFK iv0 iv1 iv2 iv3 hw hl
      refine lv_iload G0.1 G0.2.1 dX12_items_3 (lv_at hl 0 rfl) ?_
      refine lv_iconst (v := 4) G0.1 G0.2.1 dX12_items_5 (by decide) ?_
      refine lv_icmp_ge (tgt := 27) G0.1 G0.2.1 dX12_items_6 (by decide) (fun c_2 => ?_) (fun c_2 => ?_)
      · skip
        have tc_2 := ti_le c_2
        have hPF := iv0
        have hA0 : arz f_j3 q b.toInt = 2 := by omega
        have hA1 : arz f_j3 q (b.toInt + 1) = 20 := by omega
        clear iv2 iv3
        refine lv_iconst (v := 0) G0.1 G0.2.1 dX12_items_27 (by decide) ?_
        refine lv_istore (lv' := [(4, .int 0), (0, .ref u), (1, .int 1), (2, .ref q), (3, .int b)]) G0.1 G0.2.1 dX12_items_28 hl (by decide) rfl (fun ls hl => ?_)
        refine lv_aload_n G0.1 G0.2.1 dX12_items_30 rfl (lv_at hl 1 rfl) ?_
        refine lv_iload_n G0.1 G0.2.1 dX12_items_31 rfl (lv_at hl 2 rfl) ?_
        obtain ⟨v_3, v_4, v_5, v_6, v_7, v_8, v_9, v_10, v_11, v_12, v_13, v_14, y_15, v_16, v_17, v_18, v_19, v_20, y_21, v_22, y_23, v_24, hr_37, b_25, b_26, b_27, b_28, b_29, b_30, b_31, b_32, b_33, b_34, b_35, b_36⟩ := wg_12 hWF Tu
        have tq_38 := mi_row hr_37 2 rfl
        have tq_39 := mi_row hr_37 3 rfl
        have bv_5 := wf_free v_5
        have tq_40 := mi_row hr_37 4 rfl
        have bv_6 := wf_free v_6
        refine py_calli hw (va_runV (As := [.int 1]) (rest := []) G0 (c_X12_itemNow l E G L_j3 f_j3 H_j3.size u 1 gb nb pb hG hWF Tu ⟨by omega, by omega⟩ (show 0 ≤ mi f_j3 u 3 ∧ mi f_j3 u 3 ≤ mi f_j3 u 2 by omega) (show mi f_j3 u 3 = pb by omega) (show mi f_j3 u 2 = nb ∧ 0 ≤ pb by omega) hMB) (cwV 1 G0.2.2.2.2 g_X12_items_X12_itemNow_246 rfl rfl rfl (by decide +kernel) ⟨(Nat.le_of_ble_eq_true rfl), (Nat.le_of_ble_eq_true rfl)⟩) (py_preV hw (C := RX12) (T := TX12) (N := 54) rfl hr_37) rfl rfl hl.1 rfl (lv_room (Nat.le_of_ble_eq_true rfl)) dX12_items_32 ⟨(Nat.le_of_ble_eq_true rfl), (Nat.le_of_ble_eq_true rfl)⟩) (fun r_45 L_41 f_42 H_43 locs hp_44 hw => ?_)
        obtain ⟨b_50, en_46, en_47, en_48, en_49, hWF, kp_51, fk_52⟩ := hp_44
        have en_49 : r_45.toInt = rv_ix (1 : Int) (rs_v gb nb (rs_sk gb nb pb)) := en_49
        have hMB := hMB.kp (kp_f kp_51 (wt12_1 hG Tu) (by decide) (by decide) (fun _ => by decide))
        have hPF := hPF.same (kp_f kp_51 Tq (by decide) (by decide) (fun _ => by decide))
        have hA0 := (arz_kp (kp_f kp_51 Tq (by decide) (by decide) (fun _ => by decide)) _).trans hA0
        have hA1 := (arz_kp (kp_f kp_51 Tq (by decide) (by decide) (fun _ => by decide)) _).trans hA1
        have hFK := hFK.trans fk_52 (by decide)
        have hKP := hKP.trans kp_51 (by decide) (by decide)
        obtain ⟨v_53, hr_54⟩ := fk_3 hWF Tu fk_52 hr_37
        have tq_55 := mi_row hr_54 2 rfl
        have tq_56 := mi_row hr_54 3 rfl
        have bv_53 := wf_free v_53
        have tq_57 := mi_row hr_54 4 rfl
        have bv_6 := wf_free v_6
        have hE1 : ∀ _ : Unit, _ → _ := fun _ => en_47
        clear en_47
        refine lv_istore (lv' := [(5, .int r_45), (4, .int 0), (0, .ref u), (1, .int 1), (2, .ref q), (3, .int b)]) G0.1 G0.2.1 dX12_items_35 hl (by decide) rfl (fun ls hl => ?_)
        have lo_37 : ∀ n_37 : Nat, ∀ (v_58 : Int32) (v_59 : Int32) (L_j37 : List Nat) (f_j37 : py_F) (H_j37 : Heap) (locs : List Loc) (ls : Array Slot), (mi f u 2 - mi f_j37 u 3).toNat = n_37 → ((-1) ≤ v_58.toInt ∧ v_58.toInt ≤ 3) → WF E G L_j37 f_j37 → KP G [50, 13] false f f_j37 → AG f_j37 (G.2 u 1) gb nb → FK [3, 4] f f_j37 u → (mi f u 3 ≤ mi f_j37 u 3 ∧ mi f_j37 u 3 ≤ mi f u 2) → (v_58.toInt ≠ -1 → mi f_j37 u 3 < mi f u 2) → (mi f_j37 u 2 = mi f u 2) → (mi f_j37 u 4 = -1 → 0 ≤ arz f_j37 q b.toInt) → (PFX f f_j37 q b.toInt) → (0 ≤ v_59.toInt ∧ v_59.toInt ≤ 15) → (mi f_j37 u 4 = -1 → ∃ p : Int, (rv_is gb nb 1 pb) = rv_it gb nb 1 v_59.toInt (arz f_j37 q b.toInt) (arz f_j37 q (b.toInt + 1)) p ∧ rs_sk gb nb p = mi f_j37 u 3 ∧ v_58.toInt = rv_ix 1 (rs_v gb nb (rs_sk gb nb p))) → (mi f_j37 u 4 ≠ -1 → (rv_is gb nb 1 pb).1.1 = 0 ∧ mi f_j37 u 4 = (rv_is gb nb 1 pb).1.2) → py_W E (va_A (va_pl L f) s.heap.size) s L_j37 f_j37 H_j37 locs → lv_has ls 6 [(5, .int v_58), (4, .int v_59), (0, .ref u), (1, .int 1), (2, .ref q), (3, .int b)] → W p l e (headSpec w_X12_items ({ frames := 3, cells := 0, slots := 0, locals := 64 })).room s m ([.ref u, .int 1, .ref q, .int b] : List Value).toArray below meth c H_j37 locs 0 0 (MQ below (py_Qv E L f s.heap.size (fun L1 f1 => (mi f u 3 ≤ mi f1 u 3 ∧ mi f1 u 3 ≤ mi f u 2) ∧ (mi f1 u 4 = -1 → IX gb nb (rv_is gb nb 1 pb) (mi f1 u 3) (arz f1 q b.toInt) (arz f1 q (b.toInt + 1))) ∧ (mi f1 u 4 ≠ -1 → (rv_is gb nb 1 pb).1.1 = 0 ∧ mi f1 u 4 = (rv_is gb nb 1 pb).1.2) ∧ (PFX f f1 q b.toInt) ∧ (mi f1 u 4 = -1 → 0 ≤ arz f1 q b.toInt) ∧ WF E G L1 f1 ∧ KP G [50, 13] false f f1 ∧ FK [3, 4] f f1 u)) ([.ref u, .int 1, .ref q, .int b] : List Value).toArray s 0 0 (va_A (va_pl L f) s.heap.size)) (F0 m 37 ls []) := by
          intro n_37
          induction n_37 using Nat.strongRecOn with
          | _ n_37 ih_37 =>
            intro v_58 v_59 L_j37 f_j37 H_j37 locs ls hn_37 bv_58 hWF hKP hMB hFK iv0 iv1 iv2 iv3 iv4 iv5 iv6 iv7 hw hl
            refine lv_aload_n G0.1 G0.2.1 dX12_items_37 rfl (lv_at hl 2 rfl) ?_
            obtain ⟨v_60, v_61, v_62, v_63, v_64, v_65, v_66, v_67, v_68, v_69, v_70, v_71, y_72, v_73, v_74, v_75, v_76, v_77, y_78, v_79, y_80, v_81, hr_94, b_82, b_83, b_84, b_85, b_86, b_87, b_88, b_89, b_90, b_91, b_92, b_93⟩ := wg_12 hWF Tu
            have tq_95 := mi_row hr_94 2 rfl
            have tq_96 := mi_row hr_94 3 rfl
            have bv_62 := wf_free v_62
            have tq_97 := mi_row hr_94 4 rfl
            have bv_63 := wf_free v_63
            refine py_get (C := RX12) (T := TX12) (N := 54) (k := 4) (v := .int v_63) G0 hw in_X12_items_X12 rfl hr_94 (by decide) (by decide +kernel) rfl dX12_items_38 ?_
            refine lv_iconst (v := (-1)) G0.1 G0.2.1 dX12_items_41 (by decide) ?_
            refine lv_icmp_ne (tgt := 124) G0.1 G0.2.1 dX12_items_42 (by decide) (fun c_98 => ?_) (fun c_98 => ?_)
            · skip
              have tc_98 := ti_ne c_98
              exact py_vret G0 hr hlk hw ⟨(by first | omega | (intro q; omega)), (fun hw => by first | (exfalso; omega) | (obtain ⟨pz, hX, hS, hK⟩ := iv6 hw; exact ix_e (rv_it_e hX (by omega)) (by omega) rfl rfl)), iv7, iv4, (by first | omega | (intro q; omega)), hWF, hKP, hFK⟩ dX12_items_124
            · skip
              have tc_98 := ti_eq c_98
              refine lv_iload G0.1 G0.2.1 dX12_items_45 (lv_at hl 0 rfl) ?_
              refine lv_iconst (v := (-1)) G0.1 G0.2.1 dX12_items_47 (by decide) ?_
              refine lv_icmp_eq (tgt := 124) G0.1 G0.2.1 dX12_items_48 (by decide) (fun c_99 => ?_) (fun c_99 => ?_)
              · skip
                have tc_99 := ti_eq c_99
                exact py_vret G0 hr hlk hw ⟨(by first | omega | (intro q; omega)), (fun hw => by first | (exfalso; omega) | (obtain ⟨pz, hX, hS, hK⟩ := iv6 hw; exact ix_e (rv_it_e hX (by omega)) (by omega) rfl rfl)), iv7, iv4, (by first | omega | (intro q; omega)), hWF, hKP, hFK⟩ dX12_items_124
              · skip
                have tc_99 := ti_ne c_99
                refine lv_iload G0.1 G0.2.1 dX12_items_51 (lv_at hl 1 rfl) ?_
                refine lv_iload G0.1 G0.2.1 dX12_items_53 (lv_at hl 0 rfl) ?_
                refine py_calli hw (va_runS (As := [.int v_59, .int v_58]) (rest := []) G0 (c_X12_has l E G L_j37 f_j37 H_j37.size v_59 v_58 hG hWF) (va_cwS 2 G0.2.2.2.2 g_X12_items_X12_has_250 rfl rfl rfl (by decide +kernel) ⟨(Nat.le_of_ble_eq_true rfl), (Nat.le_of_ble_eq_true rfl)⟩) (py_preS hw) rfl rfl hl.1 rfl (lv_room (Nat.le_of_ble_eq_true rfl)) dX12_items_55 ⟨(Nat.le_of_ble_eq_true rfl), (Nat.le_of_ble_eq_true rfl)⟩) (fun r_104 L_100 f_101 H_102 locs hp_103 hw => ?_)
                obtain ⟨b_107, en_105, en_106, rfl, rfl⟩ := hp_103
                refine lv_if_ne (tgt := 124) G0.1 G0.2.1 dX12_items_58 (by decide) (fun c_108 => ?_) (fun c_108 => ?_)
                · skip
                  have tc_108 := ti_ne c_108
                  exact py_vret G0 hr hlk hw ⟨(by first | omega | (intro q; omega)), (fun hw => by first | (exfalso; omega) | (obtain ⟨pz, hX, hS, hK⟩ := iv6 hw; exact ix_r (rv_it_r hX (k := v_58.toInt) hK.symm (by omega) ((hb_rv (by omega) (by omega) (by omega) (by omega)).mp (en_105 (by omega)))) (by omega) (by have hz := rv_ix_eq 1 (rs_v gb nb (rs_sk gb nb pz)) (by omega); omega) (by have hz := rv_ix_eq 1 (rs_v gb nb (rs_sk gb nb pz)) (by omega); omega) (by have hz := rv_ix_eq 1 (rs_v gb nb (rs_sk gb nb pz)) (by omega); omega) rfl rfl)), iv7, iv4, (by first | omega | (intro q; omega)), hWF, hKP, hFK⟩ dX12_items_124
                · skip
                  have tc_108 := ti_eq c_108
                  refine lv_iload G0.1 G0.2.1 dX12_items_61 (lv_at hl 1 rfl) ?_
                  refine lv_iconst (v := 1) G0.1 G0.2.1 dX12_items_63 (by decide) ?_
                  refine lv_iload G0.1 G0.2.1 dX12_items_64 (lv_at hl 0 rfl) ?_
                  refine lv_ishl G0.1 G0.2.1 dX12_items_66 ?_
                  refine lv_topi (fun x_109 ex_109 => ?_)
                  refine lv_ior G0.1 G0.2.1 dX12_items_67 ?_
                  refine lv_topi (fun x_110 ex_110 => ?_)
                  refine lv_istore (lv' := [(4, .int x_110), (5, .int v_58), (0, .ref u), (1, .int 1), (2, .ref q), (3, .int b)]) G0.1 G0.2.1 dX12_items_68 hl (by decide) rfl (fun ls hl => ?_)
                  have hPF := iv4
                  have hi1 := iv1 (by omega)
                  clear iv1
                  replace iv3 := iv3 (by omega)
                  obtain ⟨pz, hX, hS, hK⟩ := iv6 (by omega)
                  clear iv6 iv7
                  have hge := rs_sk_ge gb nb pz
                  have hk0 : 0 ≤ v_58.toInt := by omega
                  clear tc_99
                  have hnb : rv_hs v_59.toInt v_58.toInt ≠ 1 := fun e => en_106 (by omega) ((hb_rv (by omega) (by omega) (by omega) (by omega)).mpr e)
                  have hbo : x_110.toInt = rv_ad v_59.toInt v_58.toInt := rv_bit_on (by omega) (by omega) (by omega) (by omega) hnb ex_109 ex_110
                  have hba := rv_ad_eq (m := v_59.toInt) (k := v_58.toInt) (by omega) (by omega) (by omega) (by omega) hnb
                  have hA0 : arz f_j37 q b.toInt = arz f_j37 q b.toInt := rfl
                  have hA1 : arz f_j37 q (b.toInt + 1) = arz f_j37 q (b.toInt + 1) := rfl
                  refine lv_aload_n G0.1 G0.2.1 dX12_items_70 rfl (lv_at hl 2 rfl) ?_
                  refine lv_dup G0.1 G0.2.1 dX12_items_71 rfl ?_
                  refine py_get (C := RX12) (T := TX12) (N := 54) (k := 3) (v := .int v_62) G0 hw in_X12_items_X12 rfl hr_94 (by decide) (by decide +kernel) rfl dX12_items_72 ?_
                  refine lv_iconst (v := 1) G0.1 G0.2.1 dX12_items_75 (by decide) ?_
                  refine lv_iadd G0.1 G0.2.1 dX12_items_76 ?_
                  refine lv_topi (fun x_111 ex_111 => ?_)
                  first | have tx_111 := ti_add ex_111 (by omega) (by omega) | skip
                  refine py_put (C := RX12) (T := TX12) (N := 54) (k := 3) (v := .int x_111) (fs' := [.int v_60, .ref (G.2 u 1), .int v_61, .int x_111, .int v_63, .int v_64, .ref (G.2 u 6), .ref (G.2 u 7), .ref (G.2 u 8), .ref (G.2 u 9), .ref (G.2 u 10), .ref (G.2 u 11), .ref (G.2 u 12), .int v_65, .int v_66, .ref (G.2 u 15), .ref (G.2 u 16), .ref (G.2 u 17), .ref (G.2 u 18), .int v_67, .int v_68, .ref (G.2 u 21), .ref (G.2 u 22), .ref (G.2 u 23), .int v_69, .int v_70, .ref (G.2 u 26), .ref (G.2 u 27), .ref (G.2 u 28), .int v_71, .long y_72, .int v_73, .int v_74, .int v_75, .int v_76, .ref (G.2 u 35), .ref (G.2 u 36), .ref (G.2 u 37), .ref (G.2 u 38), .ref (G.2 u 39), .ref (G.2 u 40), .ref (G.2 u 41), .ref (G.2 u 42), .int v_77, .ref (G.2 u 44), .ref (G.2 u 45), .ref (G.2 u 46), .ref (G.2 u 47), .long y_78, .ref (G.2 u 49), .ref (G.2 u 50), .int v_79, .long y_80, .int v_81]) (ty0 := tyX12) G0 hw tyX12_ok nmX12 in_X12_items_X12 rfl hr_94 (by decide) (by decide +kernel) rfl rfl rfl rfl (Nat.le_of_ble_eq_true rfl) rfl dX12_items_77 (fun f_112 H_113 locs h_114 x_115 hw => ?_)
                  have hMB := hMB.kp (kp_f (KP.refl.upd hWF x_115 Tu (Or.inl (by decide)) : KP G [13] false f_j37 f_112) (wt12_1 hG Tu) (by decide) (by decide) (fun _ => by decide))
                  have hPF := hPF.same ((x_115 _ (hWF _ (by rw [Tq]; decide)).1 (wf_ne Tq Tu (by decide))).2)
                  have hA0 := (arz_kp ((x_115 _ (hWF _ (by rw [Tq]; decide)).1 (wf_ne Tq Tu (by decide))).2) _).trans hA0
                  have hA1 := (arz_kp ((x_115 _ (hWF _ (by rw [Tq]; decide)).1 (wf_ne Tq Tu (by decide))).2) _).trans hA1
                  have hFK := hFK.put hr_94 h_114 3 (by decide) rfl
                  have hKP := hKP.upd hWF x_115 Tu (Or.inl (by decide))
                  have hWF := wf_upd hWF h_114 x_115 (by rw [Tu]; exact ⟨v_60, v_61, x_111, v_63, v_64, v_65, v_66, v_67, v_68, v_69, v_70, v_71, y_72, v_73, v_74, v_75, v_76, v_77, y_78, v_79, y_80, v_81, rfl, ⟨by omega, by omega⟩, ⟨by omega, by omega⟩, ⟨by omega, by omega⟩, ⟨by omega, by omega⟩, ⟨by omega, by omega⟩, ⟨by omega, by omega⟩, ⟨by omega, by omega⟩, ⟨by omega, by omega⟩, ⟨by omega, by omega⟩, ⟨by omega, by omega⟩, ⟨by omega, by omega⟩, ⟨by omega, by omega⟩⟩)
                  have tq_116 := mi_row h_114 2 rfl
                  have tq_117 := mi_row h_114 3 rfl
                  have bx_111 := wf_free x_111
                  have tq_118 := mi_row h_114 4 rfl
                  have bv_63 := wf_free v_63
                  refine lv_aload_n G0.1 G0.2.1 dX12_items_80 rfl (lv_at hl 4 rfl) ?_
                  refine lv_iload_n G0.1 G0.2.1 dX12_items_81 rfl (lv_at hl 5 rfl) ?_
                  refine lv_iload G0.1 G0.2.1 dX12_items_82 (lv_at hl 1 rfl) ?_
                  refine lv_iadd G0.1 G0.2.1 dX12_items_84 ?_
                  refine lv_topi (fun x_119 ex_119 => ?_)
                  first | have tx_119 := ti_add ex_119 (by omega) (by omega) | skip
                  refine lv_aload_n G0.1 G0.2.1 dX12_items_85 rfl (lv_at hl 2 rfl) ?_
                  refine lv_iload_n G0.1 G0.2.1 dX12_items_86 rfl (lv_at hl 3 rfl) ?_
                  refine lv_iload G0.1 G0.2.1 dX12_items_87 (lv_at hl 1 rfl) ?_
                  refine py_calli hw (va_runS (As := [.int 1, .int v_58]) (rest := [.ref u, .int x_119, .ref q]) G0 (c_X12_lowestV l E G L_j37 f_112 H_113.size 1 v_58 hG hWF) (va_cwS 2 G0.2.2.2.2 g_X12_items_X12_lowest_254 rfl rfl rfl (by decide +kernel) ⟨(Nat.le_of_ble_eq_true rfl), (Nat.le_of_ble_eq_true rfl)⟩) (py_preS hw) rfl rfl hl.1 rfl (lv_room (Nat.le_of_ble_eq_true rfl)) dX12_items_89 ⟨(Nat.le_of_ble_eq_true rfl), (Nat.le_of_ble_eq_true rfl)⟩) (fun r_124 L_120 f_121 H_122 locs hp_123 hw => ?_)
                  obtain ⟨en_125, en_126, rfl, rfl⟩ := hp_123
                  have hle : r_124.toInt = rv_lo v_58.toInt := lo_eq en_125 en_126
                  clear en_125 en_126
                  have hlg := rv_lo_ge v_58.toInt
                  have br_124 := wf_free r_124
                  refine lv_iload_n G0.1 G0.2.1 dX12_items_92 rfl (lv_at hl 3 rfl) ?_
                  refine lv_iload G0.1 G0.2.1 dX12_items_93 (lv_at hl 1 rfl) ?_
                  refine py_calli hw (va_runS (As := [.int 1, .int v_58]) (rest := [.int r_124, .ref u, .int x_119, .ref q]) G0 (c_X12_highestV l E G L_j37 f_112 H_122.size 1 v_58 hG hWF) (va_cwS 2 G0.2.2.2.2 g_X12_items_X12_highest_257 rfl rfl rfl (by decide +kernel) ⟨(Nat.le_of_ble_eq_true rfl), (Nat.le_of_ble_eq_true rfl)⟩) (py_preS hw) rfl rfl hl.1 rfl (lv_room (Nat.le_of_ble_eq_true rfl)) dX12_items_95 ⟨(Nat.le_of_ble_eq_true rfl), (Nat.le_of_ble_eq_true rfl)⟩) (fun r_131 L_127 f_128 H_129 locs hp_130 hw => ?_)
                  obtain ⟨en_132, en_133, rfl, rfl⟩ := hp_130
                  have en_132 : (v_58.toInt = 0 ∧ r_131.toInt = 4) ∨ (v_58.toInt = 1 ∧ r_131.toInt = 99) ∨ (v_58.toInt = 2 ∧ r_131.toInt = 50) ∨ (v_58.toInt ≠ 0 ∧ v_58.toInt ≠ 1 ∧ v_58.toInt ≠ 2 ∧ r_131.toInt = 1) := en_132 rfl
                  clear en_133
                  have hmo : r_131.toInt = rv_hi 1 v_58.toInt := hi_eq1 en_132 (by omega) (by omega)
                  clear en_132
                  have br_131 := wf_free r_131
                  refine py_calli hw (va_runV (As := [.int r_124, .int r_131]) (rest := [.int x_119, .ref q]) G0 (c_X12_number l E G L_j37 f_112 H_129.size u r_124 r_131 gb nb (rs_sk gb nb pz + 1) hG hWF Tu (show 0 ≤ mi f_112 u 3 ∧ mi f_112 u 3 ≤ mi f_112 u 2 by omega) (show mi f_112 u 3 = (rs_sk gb nb pz + 1) by omega) (show mi f_112 u 4 = -1 by omega) (show mi f_112 u 2 = nb ∧ 0 ≤ (rs_sk gb nb pz + 1) by omega) hMB) (cwV 2 G0.2.2.2.2 g_X12_items_X12_number_260 rfl rfl rfl (by decide +kernel) ⟨(Nat.le_of_ble_eq_true rfl), (Nat.le_of_ble_eq_true rfl)⟩) (py_preV hw (C := RX12) (T := TX12) (N := 54) rfl h_114) rfl rfl hl.1 rfl (lv_room (Nat.le_of_ble_eq_true rfl)) dX12_items_98 ⟨(Nat.le_of_ble_eq_true rfl), (Nat.le_of_ble_eq_true rfl)⟩) (fun r_138 L_134 f_135 H_136 locs hp_137 hw => ?_)
                  obtain ⟨en_139, en_140, en_141, en_142, en_143, en_144, hWF, kp_145, fk_146⟩ := hp_137
                  have hMB := hMB.kp (kp_f kp_145 (wt12_1 hG Tu) (by decide) (by decide) (fun _ => by decide))
                  have hPF := hPF.same (kp_f kp_145 Tq (by decide) (by decide) (fun _ => by decide))
                  have hA0 := (arz_kp (kp_f kp_145 Tq (by decide) (by decide) (fun _ => by decide)) _).trans hA0
                  have hA1 := (arz_kp (kp_f kp_145 Tq (by decide) (by decide) (fun _ => by decide)) _).trans hA1
                  have hFK := hFK.trans fk_146 (by decide)
                  have hKP := hKP.trans kp_145 (by decide) (by decide)
                  obtain ⟨v_147, v_148, hr_149⟩ := fk_3_4 hWF Tu fk_146 h_114
                  have tq_150 := mi_row hr_149 2 rfl
                  have tq_151 := mi_row hr_149 3 rfl
                  have bv_147 := wf_free v_147
                  have tq_152 := mi_row hr_149 4 rfl
                  have bv_148 := wf_free v_148
                  clear en_140
                  have hNM : ∀ _ : Unit, _ → _ := fun _ => en_142
                  clear en_142
                  have br_138 := wf_free r_138
                  obtain ⟨g_153, ha_154, hi_155⟩ := wf_arr (n := 32) (lo := (-2147483648)) (hi := 2147483647) hWF Tq (by decide) (fun _ => rfl)
                  have rg_156 : vp_in x_119 32 := ti_in (by omega) (by omega)
                  refine py_iast G0 hw ha_154 rg_156 dX12_items_101 (fun f_157 H_158 locs h_159 x_160 hw => ?_)
                  have hkw : KP G [50] false f_135 f_157 := KP.refl.upd hWF x_160 Tq (Or.inl (by decide))
                  have hMB := hMB.kp (kp_f (KP.refl.upd hWF x_160 Tq (Or.inl (by decide)) : KP G [50] false f_135 f_157) (wt12_1 hG Tu) (by decide) (by decide) (fun _ => by decide))
                  have hFK := hFK.same ((x_160 _ (hWF _ (by rw [Tu]; decide)).1 (wf_ne Tu Tq (by decide))).2)
                  have hKP := hKP.upd hWF x_160 Tq (Or.inl (by decide))
                  have hi_161 := wf_inu (k := (x_119 : Int32).toNatClampNeg) (x := r_138) hi_155 (wf_free r_138).1 (wf_free r_138).2
                  have hWF := wf_upd hWF h_159 x_160 (by rw [Tq]; exact ⟨_, rfl, hi_161⟩)
                  have hr_149 := hr_149.ext x_160 (py_ne_arr hr_149 ha_154)
                  have tq_162 := mi_row hr_149 2 rfl
                  have tq_163 := mi_row hr_149 3 rfl
                  have bv_147 := wf_free v_147
                  have tq_164 := mi_row hr_149 4 rfl
                  have bv_148 := wf_free v_148
                  have hz4 := mi_kp (x_160 u (hWF u (by rw [Tu]; decide)).1 (wf_ne Tu Tq (by decide))).2 4
                  have hPF := hPF.up ha_154 h_159 (by omega) (by omega)
                  have hA0 := ax_ud hA0 ha_154 h_159 (by omega) (by omega)
                  have hA1 := ax_ud hA1 ha_154 h_159 (by omega) (by omega)
                  refine lv_aload_n G0.1 G0.2.1 dX12_items_102 rfl (lv_at hl 2 rfl) ?_
                  refine py_get (C := RX12) (T := TX12) (N := 54) (k := 4) (v := .int v_148) G0 hw in_X12_items_X12 rfl hr_149 (by decide) (by decide +kernel) rfl dX12_items_103 ?_
                  refine lv_iconst (v := (-1)) G0.1 G0.2.1 dX12_items_106 (by decide) ?_
                  refine lv_icmp_ne (tgt := 118) G0.1 G0.2.1 dX12_items_107 (by decide) (fun c_165 => ?_) (fun c_165 => ?_)
                  · skip
                    have tc_165 := ti_ne c_165
                    clear en_141
                    clear en_143
                    replace en_144 := en_144 (by omega)
                    refine lv_iconst (v := (-1)) G0.1 G0.2.1 dX12_items_118 (by decide) ?_
                    refine lv_istore (lv' := [(5, .int (-1)), (4, .int x_110), (0, .ref u), (1, .int 1), (2, .ref q), (3, .int b)]) G0.1 G0.2.1 dX12_items_119 hl (by decide) rfl (fun ls hl => ?_)
                    refine lv_goto (tgt := 37) G0.1 G0.2.1 dX12_items_121 (by decide) ?_
                    exact ih_37 ((mi f u 2 - mi f_157 u 3).toNat) (by omega) (-1) x_110 L_134 f_157 _ _ ls rfl ⟨by omega, by omega⟩ hWF hKP hMB hFK (by first | omega | (intros; omega)) (fun hq => absurd kcm1 hq) (by first | omega | (intros; omega)) (fun hw => absurd hw (by omega)) hPF (by first | omega | (intros; omega)) (fun hw => absurd hw (by omega)) (fun hw => ix_f (rv_it_f hX (k := v_58.toInt) (lo := r_124.toInt) (hi := r_131.toInt) hK.symm (by omega) hnb (by omega) (by omega) rfl (by omega)) (by omega) (by omega)) hw (lv_sub hl [0, 1, 2, 3, 4, 5] rfl)
                  · skip
                    have tc_165 := ti_eq c_165
                    replace en_141 := en_141 (by omega)
                    replace en_143 := en_143 (by omega)
                    clear en_144
                    have hnm := hNM () (by omega)
                    refine lv_aload_n G0.1 G0.2.1 dX12_items_110 rfl (lv_at hl 2 rfl) ?_
                    refine lv_iload_n G0.1 G0.2.1 dX12_items_111 rfl (lv_at hl 3 rfl) ?_
                    refine py_calli hw (va_runV (As := [.int 1]) (rest := []) G0 (c_X12_itemNow l E G L_134 f_157 H_158.size u 1 gb nb (mi f_157 u 3) hG hWF Tu ⟨by omega, by omega⟩ (show 0 ≤ mi f_157 u 3 ∧ mi f_157 u 3 ≤ mi f_157 u 2 by omega) (show mi f_157 u 3 = (mi f_157 u 3) by omega) (show mi f_157 u 2 = nb ∧ 0 ≤ (mi f_157 u 3) by omega) hMB) (cwV 1 G0.2.2.2.2 g_X12_items_X12_itemNow_246 rfl rfl rfl (by decide +kernel) ⟨(Nat.le_of_ble_eq_true rfl), (Nat.le_of_ble_eq_true rfl)⟩) (py_preV hw (C := RX12) (T := TX12) (N := 54) rfl hr_149) rfl rfl hl.1 rfl (lv_room (Nat.le_of_ble_eq_true rfl)) dX12_items_112 ⟨(Nat.le_of_ble_eq_true rfl), (Nat.le_of_ble_eq_true rfl)⟩) (fun r_170 L_166 f_167 H_168 locs hp_169 hw => ?_)
                    obtain ⟨b_175, en_171, en_172, en_173, en_174, hWF, kp_176, fk_177⟩ := hp_169
                    have en_174 : r_170.toInt = rv_ix (1 : Int) (rs_v gb nb (rs_sk gb nb (mi f_157 u 3))) := en_174
                    have hMB := hMB.kp (kp_f kp_176 (wt12_1 hG Tu) (by decide) (by decide) (fun _ => by decide))
                    have hPF := hPF.same (kp_f kp_176 Tq (by decide) (by decide) (fun _ => by decide))
                    have hA0 := ax_kp (kp_f kp_176 Tq (by decide) (by decide) (fun _ => by decide)) hA0
                    have hA1 := ax_kp (kp_f kp_176 Tq (by decide) (by decide) (fun _ => by decide)) hA1
                    have hFK := hFK.trans fk_177 (by decide)
                    have hKP := hKP.trans kp_176 (by decide) (by decide)
                    obtain ⟨v_178, hr_179⟩ := fk_3 hWF Tu fk_177 hr_149
                    have tq_180 := mi_row hr_179 2 rfl
                    have tq_181 := mi_row hr_179 3 rfl
                    have bv_178 := wf_free v_178
                    have tq_182 := mi_row hr_179 4 rfl
                    have bv_148 := wf_free v_148
                    have h_159 := kp_at kp_176 hWF Tq (by decide) (by decide) (by decide) h_159
                    refine lv_goto (tgt := 119) G0.1 G0.2.1 dX12_items_115 (by decide) ?_
                    refine lv_istore (lv' := [(5, .int r_170), (4, .int x_110), (0, .ref u), (1, .int 1), (2, .ref q), (3, .int b)]) G0.1 G0.2.1 dX12_items_119 hl (by decide) rfl (fun ls hl => ?_)
                    refine lv_goto (tgt := 37) G0.1 G0.2.1 dX12_items_121 (by decide) ?_
                    exact ih_37 ((mi f u 2 - mi f_167 u 3).toNat) (by omega) r_170 x_110 L_166 f_167 _ _ ls rfl ⟨by omega, by omega⟩ hWF hKP hMB hFK (by first | omega | (intros; omega)) (fun hq => by have hz := en_172 hq; omega) (by first | omega | (intros; omega)) (fun _ => ax_ge hA0 (by omega) (by omega)) hPF (by first | omega | (intros; omega)) (fun hw => ⟨mi f_157 u 3, rv_it_g hX (k := v_58.toInt) (lo := r_124.toInt) (hi := r_131.toInt) hK.symm (by omega) hnb (by omega) (by omega) rfl (by omega) (by omega) (by omega) hbo rfl (ax_ex (b := b.toInt) hA0 0 (by omega) (by omega) (by omega)) (ax_ex (b := b.toInt) hA1 1 (by omega) (by omega) (by omega)) (by omega), by omega, by omega⟩) (fun hw => absurd (show mi f_167 u 4 = -1 by omega) hw) hw (lv_sub hl [0, 1, 2, 3, 4, 5] rfl)
        exact lo_37 _ r_45 0 L_41 f_42 _ _ ls rfl ⟨by omega, by omega⟩ hWF hKP hMB hFK (by first | omega | (intros; omega)) (fun hq => by have hz := hE1 () hq; omega) (by first | omega | (intros; omega)) (fun _ => by omega) hPF (by first | omega | (intros; omega)) (fun hw => ⟨pb, rv_is_1e (by omega) (by omega) (by omega), by omega, by omega⟩) (fun hw => absurd (show mi f_42 u 4 = -1 by omega) hw) hw (lv_sub hl [0, 1, 2, 3, 4, 5] rfl)
      · skip
        have tc_2 := ti_nle c_2
        refine lv_aload_n G0.1 G0.2.1 dX12_items_9 rfl (lv_at hl 3 rfl) ?_
        refine lv_iload_n G0.1 G0.2.1 dX12_items_10 rfl (lv_at hl 4 rfl) ?_
        refine lv_iload G0.1 G0.2.1 dX12_items_11 (lv_at hl 0 rfl) ?_
        refine lv_iadd G0.1 G0.2.1 dX12_items_13 ?_
        refine lv_topi (fun x_183 ex_183 => ?_)
        first | have tx_183 := ti_add ex_183 (by omega) (by omega) | skip
        refine lv_iload_n G0.1 G0.2.1 dX12_items_14 rfl (lv_at hl 2 rfl) ?_
        refine lv_iload G0.1 G0.2.1 dX12_items_15 (lv_at hl 0 rfl) ?_
        refine py_calli hw (va_runS (As := [.int 1, .int v_1]) (rest := [.int x_183, .ref q]) G0 (c_X12_usualV l E G L_j3 f_j3 H_j3.size 1 v_1 hG hWF) (va_cwS 2 G0.2.2.2.2 g_X12_items_X12_usual_242 rfl rfl rfl (by decide +kernel) ⟨(Nat.le_of_ble_eq_true rfl), (Nat.le_of_ble_eq_true rfl)⟩) (py_preS hw) rfl rfl hl.1 rfl (lv_room (Nat.le_of_ble_eq_true rfl)) dX12_items_17 ⟨(Nat.le_of_ble_eq_true rfl), (Nat.le_of_ble_eq_true rfl)⟩) (fun r_188 L_184 f_185 H_186 locs hp_187 hw => ?_)
        obtain ⟨en_189, en_190, en_191, en_192, rfl, rfl⟩ := hp_187
        have en_189 : v_1.toInt = 0 → r_188.toInt = 2 := en_189 rfl
        have en_190 : v_1.toInt = 1 → r_188.toInt = 20 := en_190 rfl
        clear en_191
        clear en_192
        have br_188 := wf_free r_188
        obtain ⟨g_193, ha_194, hi_195⟩ := wf_arr (n := 32) (lo := (-2147483648)) (hi := 2147483647) hWF Tq (by decide) (fun _ => rfl)
        have rg_196 : vp_in x_183 32 := ti_in (by omega) (by omega)
        refine py_iast G0 hw ha_194 rg_196 dX12_items_20 (fun f_197 H_198 locs h_199 x_200 hw => ?_)
        have hkw : KP G [50] false f_j3 f_197 := KP.refl.upd hWF x_200 Tq (Or.inl (by decide))
        have hMB := hMB.kp (kp_f (KP.refl.upd hWF x_200 Tq (Or.inl (by decide)) : KP G [50] false f_j3 f_197) (wt12_1 hG Tu) (by decide) (by decide) (fun _ => by decide))
        have hFK := hFK.same ((x_200 _ (hWF _ (by rw [Tu]; decide)).1 (wf_ne Tu Tq (by decide))).2)
        have mk_201 := mi_kp (f := f_j3) (f1 := f_197) (x_200 u (hWF u (by rw [Tu]; decide)).1 (wf_ne Tu Tq (by decide))).2 2
        have mk_202 := mi_kp (f := f_j3) (f1 := f_197) (x_200 u (hWF u (by rw [Tu]; decide)).1 (wf_ne Tu Tq (by decide))).2 3
        have mk_203 := mi_kp (f := f_j3) (f1 := f_197) (x_200 u (hWF u (by rw [Tu]; decide)).1 (wf_ne Tu Tq (by decide))).2 4
        have hKP := hKP.upd hWF x_200 Tq (Or.inl (by decide))
        have hi_204 := wf_inu (k := (x_183 : Int32).toNatClampNeg) (x := r_188) hi_195 (wf_free r_188).1 (wf_free r_188).2
        have hWF := wf_upd hWF h_199 x_200 (by rw [Tq]; exact ⟨_, rfl, hi_204⟩)
        have hPF := iv0.up ha_194 h_199 (by omega) (by omega)
        have hx0 := ax_up (b := b.toInt) rfl ha_194 h_199 (by omega) (by omega)
        have hx1 := ax_up (b := b.toInt + 1) rfl ha_194 h_199 (by omega) (by omega)
        obtain ⟨x_205, ex_205⟩ : ∃ y : Int32, y = v_1 + 1 := ⟨_, rfl⟩
        first | have tx_205 := ti_add ex_205 (by omega) (by omega) | skip
        refine lv_iinc (v := x_205) (lv' := [(4, .int x_205), (0, .ref u), (1, .int 1), (2, .ref q), (3, .int b)]) G0.1 G0.2.1 dX12_items_21 hl (k := 0) rfl (show _ + (1 : Int32) = _ from ex_205.symm) (by decide) rfl (fun ls hl => ?_)
        refine lv_goto (tgt := 3) G0.1 G0.2.1 dX12_items_24 (by decide) ?_
        exact ih_3 ((2147483647 - x_205.toInt).toNat) (by omega) x_205 L_j3 f_197 _ _ ls rfl ⟨by omega, by omega⟩ hWF hKP hMB hFK hPF (by first | omega | (intros; omega)) (by first | omega | (intros; omega)) (by first | omega | (intros; omega)) hw (lv_sub hl [0, 1, 2, 3, 4] rfl)
  exact lo_3 _ 0 L f _ _ ls rfl ⟨by omega, by omega⟩ hWF hKP hMB hFK PFX.refl (by first | omega | (intros; omega)) (by first | omega | (intros; omega)) (by first | omega | (intros; omega)) hw (lv_sub hl [0, 1, 2, 3, 4] rfl)
